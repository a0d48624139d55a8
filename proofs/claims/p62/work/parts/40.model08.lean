set_option maxHeartbeats 4000000 in
set_option maxRecDepth 100000 in
theorem c_X12_places (l : Launch) (D : va_G) (k : Nat → ClassId) (mo : Nat) (p0 : Int32) (v0 : Int32) (m1 : Nat) (m2 : Nat) (m3 : Nat) (m4 : Nat) (m5 : Nat) (v6 : Int32) (v7 : Int32) (v8 : Int32) (v9 : Int32) (v10 : Int32) (v11 : Int64) (v12 : Int32) (v13 : Int32) (v14 : Int32) (v15 : Int32) (m16 : Nat) (m17 : Nat) (m18 : Nat) (m19 : Nat) (m20 : Nat) (m21 : Nat) (m22 : Nat) (m23 : Nat) (v24 : Int32) (m25 : Nat) (m26 : Nat) (m27 : Nat) (m28 : Nat) (m29 : Nat) (v30 : Int32) (m31 : Nat) (m32 : Nat) (m33 : Nat) (v34 : Int32) (v35 : Int32) (v36 : Int32) (m37 : Nat) (m38 : Nat) (m39 : Nat) (m40 : Nat) (v41 : Int64) (f16 : Nat → Int32) (f17 : Nat → Int32) (f18 : Nat → Int32) (f19 : Nat → Int32) (f22 : Nat → Int32) (f25 : Nat → Int32) (f26 : Nat → Int32) (sz : Nat) (h_v6 : 0 ≤ v6.toInt ∧ v6.toInt ≤ 1000) (h_v24 : 0 ≤ v24.toInt ∧ v24.toInt ≤ 1023) (hp_f17_0 : PR 30 6 0 0 8 f17) (hp_f17_1 : PR 30 6 1 0 10 f17) (hp_f17_2 : PR 30 6 2 0 4 f17) (hp_f17_3 : PR 30 6 3 0 6 f17) (hp_f17_4 : PR 30 6 4 0 2 f17) (hp_f17_5 : PR 30 6 5 0 40 f17) (hp_f18_0 : PR 250 5 0 0 7 f18) (hp_f18_1 : PR 250 5 1 0 7 f18) (hp_f18_2 : PR 250 5 2 0 60 f18) (hp_f18_3 : PR 250 5 3 0 10 f18) (hp_f19_0 : PR 40 2 0 0 7 f19) (hp_f19_1 : PR 40 2 1 0 99 f19) (hp_f22_0 : PR 600 3 1 0 9 f22) (hp_f22_1 : PR 600 3 2 0 99 f22) (hp_f22_2 : AK f22) (hp_f25_0 : PR 4 1 0 0 99 f25) (hp_f26_0 : PR 8 1 0 0 100000 f26) : Met l yX12_places (ww yX12_places cX12_places 2 (some .int)) ({ frames := 4, cells := 0, slots := 0, locals := 96 }) (Pre0 D k [(mo, .inr (12, [.int v0, .ref m1, .ref m2, .ref m3, .ref m4, .ref m5, .int v6, .int v7, .int v8, .int v9, .int v10, .long v11, .int v12, .int v13, .int v14, .int v15, .ref m16, .ref m17, .ref m18, .ref m19, .ref m20, .ref m21, .ref m22, .ref m23, .int v24, .ref m25, .ref m26, .ref m27, .ref m28, .ref m29, .int v30, .ref m31, .ref m32, .ref m33, .int v34, .int v35, .int v36, .ref m37, .ref m38, .ref m39, .ref m40, .long v41])), (m16, .inl (k 0, 5, .inl f16)), (m17, .inl (k 0, 30, .inl f17)), (m18, .inl (k 0, 250, .inl f18)), (m19, .inl (k 0, 40, .inl f19)), (m22, .inl (k 0, 600, .inl f22)), (m25, .inl (k 0, 4, .inl f25)), (m26, .inl (k 0, 8, .inl f26))] sz [.ref mo, .int p0]) (va_Qi (fun (r : Int32) (u : Int32 × Int32 × Int32 × (Nat → Int32) × (Nat → Int32)) => match u with | (v0z, v24z, v36z, f25z, f26z) => ((-2) ≤ r.toInt ∧ r.toInt ≤ 255) ∧ (0 ≤ v0z.toInt ∧ v0z.toInt ≤ 0) ∧ (0 ≤ v24z.toInt ∧ v24z.toInt ≤ 1023) ∧ (PR 4 1 0 0 99 f25z) ∧ (PR 8 1 0 0 100000 f26z)) (fun (u : Int32 × Int32 × Int32 × (Nat → Int32) × (Nat → Int32)) tZ => match u with | (v0z, v24z, v36z, f25z, f26z) => Bw D k (va_A [(mo, .inr (12, [.int v0, .ref m1, .ref m2, .ref m3, .ref m4, .ref m5, .int v6, .int v7, .int v8, .int v9, .int v10, .long v11, .int v12, .int v13, .int v14, .int v15, .ref m16, .ref m17, .ref m18, .ref m19, .ref m20, .ref m21, .ref m22, .ref m23, .int v24, .ref m25, .ref m26, .ref m27, .ref m28, .ref m29, .int v30, .ref m31, .ref m32, .ref m33, .int v34, .int v35, .int v36, .ref m37, .ref m38, .ref m39, .ref m40, .long v41])), (m16, .inl (k 0, 5, .inl f16)), (m17, .inl (k 0, 30, .inl f17)), (m18, .inl (k 0, 250, .inl f18)), (m19, .inl (k 0, 40, .inl f19)), (m22, .inl (k 0, 600, .inl f22)), (m25, .inl (k 0, 4, .inl f25)), (m26, .inl (k 0, 8, .inl f26))] sz) [(mo, .inr (12, [.int v0z, .ref m1, .ref m2, .ref m3, .ref m4, .ref m5, .int v6, .int v7, .int v8, .int v9, .int v10, .long v11, .int v12, .int v13, .int v14, .int v15, .ref m16, .ref m17, .ref m18, .ref m19, .ref m20, .ref m21, .ref m22, .ref m23, .int v24z, .ref m25, .ref m26, .ref m27, .ref m28, .ref m29, .int v30, .ref m31, .ref m32, .ref m33, .int v34, .int v35, .int v36z, .ref m37, .ref m38, .ref m39, .ref m40, .long v41])), (m16, .inl (k 0, 5, .inl f16)), (m17, .inl (k 0, 30, .inl f17)), (m18, .inl (k 0, 250, .inl f18)), (m19, .inl (k 0, 40, .inl f19)), (m22, .inl (k 0, 600, .inl f22)), (m25, .inl (k 0, 4, .inl f25z)), (m26, .inl (k 0, 8, .inl f26z))] tZ) (va_A [(mo, .inr (12, [.int v0, .ref m1, .ref m2, .ref m3, .ref m4, .ref m5, .int v6, .int v7, .int v8, .int v9, .int v10, .long v11, .int v12, .int v13, .int v14, .int v15, .ref m16, .ref m17, .ref m18, .ref m19, .ref m20, .ref m21, .ref m22, .ref m23, .int v24, .ref m25, .ref m26, .ref m27, .ref m28, .ref m29, .int v30, .ref m31, .ref m32, .ref m33, .int v34, .int v35, .int v36, .ref m37, .ref m38, .ref m39, .ref m40, .long v41])), (m16, .inl (k 0, 5, .inl f16)), (m17, .inl (k 0, 30, .inl f17)), (m18, .inl (k 0, 250, .inl f18)), (m19, .inl (k 0, 40, .inl f19)), (m22, .inl (k 0, 600, .inl f22)), (m25, .inl (k 0, 4, .inl f25)), (m26, .inl (k 0, 8, .inl f26))] sz)) 0 0 (va_A [(mo, .inr (12, [.int v0, .ref m1, .ref m2, .ref m3, .ref m4, .ref m5, .int v6, .int v7, .int v8, .int v9, .int v10, .long v11, .int v12, .int v13, .int v14, .int v15, .ref m16, .ref m17, .ref m18, .ref m19, .ref m20, .ref m21, .ref m22, .ref m23, .int v24, .ref m25, .ref m26, .ref m27, .ref m28, .ref m29, .int v30, .ref m31, .ref m32, .ref m33, .int v34, .int v35, .int v36, .ref m37, .ref m38, .ref m39, .ref m40, .long v41])), (m16, .inl (k 0, 5, .inl f16)), (m17, .inl (k 0, 30, .inl f17)), (m18, .inl (k 0, 250, .inl f18)), (m19, .inl (k 0, 40, .inl f19)), (m22, .inl (k 0, 600, .inl f22)), (m25, .inl (k 0, 4, .inl f25)), (m26, .inl (k 0, 8, .inl f26))] sz) := by
  refine Met.ofW (cc := cX12_places) (maxL := 2) (ret := (some .int)) (by decide +kernel) rfl ?_
  intro p e s m args below meth c s₁ B hml hv
  obtain ⟨rfl, hsz, hP, hK, hD0, hN⟩ := hv
  have hx := B.exec
  have hb := B.bytes
  have hr := B.returns
  have hts : ∀ w ∈ TT, w.before _ s = true := fun w h => atoms_spec (ws := ww yX12_places cX12_places 2 (some .int)) B.pre w (List.mem_cons_of_mem _ h)
  have hown : s.vm.findClass RX12 = some m.cls := findClass_of_methodNamed B.named
  have hlocks := B.notSynchronized
  subst hsz
  have hD := hD0.self (sz := s.heap.size)
  generalize hAe : va_A [(mo, .inr (12, [.int v0, .ref m1, .ref m2, .ref m3, .ref m4, .ref m5, .int v6, .int v7, .int v8, .int v9, .int v10, .long v11, .int v12, .int v13, .int v14, .int v15, .ref m16, .ref m17, .ref m18, .ref m19, .ref m20, .ref m21, .ref m22, .ref m23, .int v24, .ref m25, .ref m26, .ref m27, .ref m28, .ref m29, .int v30, .ref m31, .ref m32, .ref m33, .int v34, .int v35, .int v36, .ref m37, .ref m38, .ref m39, .ref m40, .long v41])), (m16, .inl (k 0, 5, .inl f16)), (m17, .inl (k 0, 30, .inl f17)), (m18, .inl (k 0, 250, .inl f18)), (m19, .inl (k 0, 40, .inl f19)), (m22, .inl (k 0, 600, .inl f22)), (m25, .inl (k 0, 4, .inl f25)), (m26, .inl (k 0, 8, .inl f26))] s.heap.size = A at hD ⊢
  have hA : ∀ q : Nat, s.heap.size ≤ q → A q := fun q h => by rw [← hAe]; exact Or.inr h
  have hS : va_S A s.heap s.heap [] := va_S.rf
  have hl := lv_entry ([.ref mo, .int p0]) (n := 2) (Nat.le_of_ble_eq_true rfl)
  rw [lg_entry_eq]
  generalize (lg_sl ([.ref mo, .int p0]) ++ List.replicate (2 - (lg_sl ([.ref mo, .int p0])).length) Slot.unset).toArray = ls at hl ⊢
  have hl : lv_has ls 2 [(0, .ref mo), (1, .int p0)] := hl
  refine lv_aload_n hx hb dX12_places_0 rfl (lv_at hl 0 rfl) ?_
  refine lv_iconst (v := 0) hx hb dX12_places_1 (by decide) ?_
  refine va_put (D := D) (ci := 12) (v := .int 0) (ty := tyX12 0) (C := RX12) (T := TX12) (N := 42) hx hb hts iT_X12 tyX12 tyX12_ok nmX12 hown hK hP hD hS 0 rfl rfl 0 (by decide) (hts _ tw_6_53) (fun _ h9 => h9) rfl (tyX12_ok 0 (by decide)) rfl rfl (Nat.le_of_ble_eq_true rfl) dX12_places_2 (fun H locs hP hD hS => ?_)
  have hP : va_P D vwCl [(mo, .inr (12, [.int 0, .ref m1, .ref m2, .ref m3, .ref m4, .ref m5, .int v6, .int v7, .int v8, .int v9, .int v10, .long v11, .int v12, .int v13, .int v14, .int v15, .ref m16, .ref m17, .ref m18, .ref m19, .ref m20, .ref m21, .ref m22, .ref m23, .int v24, .ref m25, .ref m26, .ref m27, .ref m28, .ref m29, .int v30, .ref m31, .ref m32, .ref m33, .int v34, .int v35, .int v36, .ref m37, .ref m38, .ref m39, .ref m40, .long v41])), (m16, .inl (k 0, 5, .inl f16)), (m17, .inl (k 0, 30, .inl f17)), (m18, .inl (k 0, 250, .inl f18)), (m19, .inl (k 0, 40, .inl f19)), (m22, .inl (k 0, 600, .inl f22)), (m25, .inl (k 0, 4, .inl f25)), (m26, .inl (k 0, 8, .inl f26))] H := hP
  have hD : va_D A [(mo, .inr (12, [.int 0, .ref m1, .ref m2, .ref m3, .ref m4, .ref m5, .int v6, .int v7, .int v8, .int v9, .int v10, .long v11, .int v12, .int v13, .int v14, .int v15, .ref m16, .ref m17, .ref m18, .ref m19, .ref m20, .ref m21, .ref m22, .ref m23, .int v24, .ref m25, .ref m26, .ref m27, .ref m28, .ref m29, .int v30, .ref m31, .ref m32, .ref m33, .int v34, .int v35, .int v36, .ref m37, .ref m38, .ref m39, .ref m40, .long v41])), (m16, .inl (k 0, 5, .inl f16)), (m17, .inl (k 0, 30, .inl f17)), (m18, .inl (k 0, 250, .inl f18)), (m19, .inl (k 0, 40, .inl f19)), (m22, .inl (k 0, 600, .inl f22)), (m25, .inl (k 0, 4, .inl f25)), (m26, .inl (k 0, 8, .inl f26))] := hD
  refine lv_aload_n hx hb dX12_places_5 rfl (lv_at hl 0 rfl) ?_
  refine lv_iload_n hx hb dX12_places_6 rfl (lv_at hl 1 rfl) ?_
  obtain ⟨hPc, hDc, hFc⟩ := sub3 hP hD hS hA (ws' := [(mo, .inr (12, [.int 0, .ref m1, .ref m2, .ref m3, .ref m4, .ref m5, .int v6, .int v7, .int v8, .int v9, .int v10, .long v11, .int v12, .int v13, .int v14, .int v15, .ref m16, .ref m17, .ref m18, .ref m19, .ref m20, .ref m21, .ref m22, .ref m23, .int v24, .ref m25, .ref m26, .ref m27, .ref m28, .ref m29, .int v30, .ref m31, .ref m32, .ref m33, .int v34, .int v35, .int v36, .ref m37, .ref m38, .ref m39, .ref m40, .long v41])), (m16, .inl (k 0, 5, .inl f16))]) [0, 1] (by decide +kernel) rfl
  refine va_calli (va_runV (C := RX12) (As := [.int p0]) (rest := []) ⟨hx, hb, hml, hown, hts⟩ (c_X12_isPlace l D k mo p0 0 m1 m2 m3 m4 m5 v6 v7 v8 v9 v10 v11 v12 v13 v14 v15 m16 m17 m18 m19 m20 m21 m22 m23 v24 m25 m26 m27 m28 m29 v30 m31 m32 m33 v34 v35 v36 m37 m38 m39 m40 v41 f16 H.size (show 0 ≤ v6.toInt ∧ v6.toInt ≤ 1000 from by omega) (show 0 ≤ v24.toInt ∧ v24.toInt ≤ 1023 from by omega)) (cwV 1 hts (gV tw_8_117 tw_8_119 tw_p_86 tw_1_13 tw_8_120) rfl rfl rfl hdV_X12_isPlace ⟨Nat.le_of_ble_eq_true rfl, Nat.le_of_ble_eq_true rfl⟩) (cz_V hK hPc hDc hN (ci := 12) (q0 := 0) rfl rfl [.int p0]) rfl rfl hl.1 rfl (lv_room (Nat.le_of_ble_eq_true rfl)) dX12_places_7 ⟨Nat.le_of_ble_eq_true rfl, Nat.le_of_ble_eq_true rfl⟩) hS (fun q _ h => hFc q h) hFc (fun r_1 uZ tZ H1 locs ht hvm hw hB hz1 hk1 hS => ?_)
  obtain ⟨hP1, hK1, hD1⟩ := hB
  rw [ht] at hP1
  obtain ⟨hP, hD⟩ := va_join (wr := [(m17, .inl (k 0, 30, .inl f17)), (m18, .inl (k 0, 250, .inl f18)), (m19, .inl (k 0, 40, .inl f19)), (m22, .inl (k 0, 600, .inl f22)), (m25, .inl (k 0, 4, .inl f25)), (m26, .inl (k 0, 8, .inl f26))]) (w1 := [(mo, .inr (12, [.int 0, .ref m1, .ref m2, .ref m3, .ref m4, .ref m5, .int v6, .int v7, .int v8, .int v9, .int v10, .long v11, .int v12, .int v13, .int v14, .int v15, .ref m16, .ref m17, .ref m18, .ref m19, .ref m20, .ref m21, .ref m22, .ref m23, .int v24, .ref m25, .ref m26, .ref m27, .ref m28, .ref m29, .int v30, .ref m31, .ref m32, .ref m33, .int v34, .int v35, .int v36, .ref m37, .ref m38, .ref m39, .ref m40, .long v41])), (m16, .inl (k 0, 5, .inl f16))]) hP hD [0, 1] [2, 3, 4, 5, 6, 7] rfl rfl (by decide +kernel) (by decide +kernel) hk1 hFc hP1 hD1
  clear hK1 hP1 hD1 hPc hDc hFc
  clear hk1 hz1 ht hvm
  have hP : va_P D vwCl [(m17, .inl (k 0, 30, .inl f17)), (m18, .inl (k 0, 250, .inl f18)), (m19, .inl (k 0, 40, .inl f19)), (m22, .inl (k 0, 600, .inl f22)), (m25, .inl (k 0, 4, .inl f25)), (m26, .inl (k 0, 8, .inl f26)), (mo, .inr (12, [.int 0, .ref m1, .ref m2, .ref m3, .ref m4, .ref m5, .int v6, .int v7, .int v8, .int v9, .int v10, .long v11, .int v12, .int v13, .int v14, .int v15, .ref m16, .ref m17, .ref m18, .ref m19, .ref m20, .ref m21, .ref m22, .ref m23, .int v24, .ref m25, .ref m26, .ref m27, .ref m28, .ref m29, .int v30, .ref m31, .ref m32, .ref m33, .int v34, .int v35, .int v36, .ref m37, .ref m38, .ref m39, .ref m40, .long v41])), (m16, .inl (k 0, 5, .inl f16))] H1 := hP
  have hD : va_D A [(m17, .inl (k 0, 30, .inl f17)), (m18, .inl (k 0, 250, .inl f18)), (m19, .inl (k 0, 40, .inl f19)), (m22, .inl (k 0, 600, .inl f22)), (m25, .inl (k 0, 4, .inl f25)), (m26, .inl (k 0, 8, .inl f26)), (mo, .inr (12, [.int 0, .ref m1, .ref m2, .ref m3, .ref m4, .ref m5, .int v6, .int v7, .int v8, .int v9, .int v10, .long v11, .int v12, .int v13, .int v14, .int v15, .ref m16, .ref m17, .ref m18, .ref m19, .ref m20, .ref m21, .ref m22, .ref m23, .int v24, .ref m25, .ref m26, .ref m27, .ref m28, .ref m29, .int v30, .ref m31, .ref m32, .ref m33, .int v34, .int v35, .int v36, .ref m37, .ref m38, .ref m39, .ref m40, .long v41])), (m16, .inl (k 0, 5, .inl f16))] := hD
  generalize H1 = H at hP hS ⊢
  have hw_2 : (0 ≤ r_1.toInt ∧ r_1.toInt ≤ 1) ∧ ((r_1.toInt = 1 ∧ 1 ≤ p0.toInt ∧ p0.toInt ≤ 4) ∨ r_1.toInt = 0) := hw
  obtain ⟨hw_3, hw_4⟩ := hw_2
  clear hw
  refine lv_if_eq (tgt := 22) hx hb dX12_places_10 (by decide) (fun h_5 => ?_) (fun h_5 => ?_)
  · skip
    have zh_5 : r_1.toInt = 0 := z_eq h_5
    refine lv_bipush (v := (-2)) hx hb dX12_places_22 (by decide) ?_
    obtain ⟨hP9, hD9⟩ := sub2 hP hD (ws' := [(mo, .inr (12, [.int 0, .ref m1, .ref m2, .ref m3, .ref m4, .ref m5, .int v6, .int v7, .int v8, .int v9, .int v10, .long v11, .int v12, .int v13, .int v14, .int v15, .ref m16, .ref m17, .ref m18, .ref m19, .ref m20, .ref m21, .ref m22, .ref m23, .int v24, .ref m25, .ref m26, .ref m27, .ref m28, .ref m29, .int v30, .ref m31, .ref m32, .ref m33, .int v34, .int v35, .int v36, .ref m37, .ref m38, .ref m39, .ref m40, .long v41])), (m16, .inl (k 0, 5, .inl f16)), (m17, .inl (k 0, 30, .inl f17)), (m18, .inl (k 0, 250, .inl f18)), (m19, .inl (k 0, 40, .inl f19)), (m22, .inl (k 0, 600, .inl f22)), (m25, .inl (k 0, 4, .inl f25)), (m26, .inl (k 0, 8, .inl f26))]) [6, 7, 0, 1, 2, 3, 4, 5] (by decide +kernel) rfl
    exact W.iret (v := (-2)) hx hb hr (fun tZ ht hW => ⟨⟨(-2), (0, v24, v36, f25, f26), rfl, ⟨(show (-2) ≤ (-2) ∧ (-2) ≤ 255 from by omega), (show 0 ≤ 0 ∧ 0 ≤ 0 from by omega), (show 0 ≤ v24.toInt ∧ v24.toInt ≤ 1023 from by omega), hp_f25_0, hp_f26_0⟩, by rw [ht]; exact hP9, va_K.moved hW.alike hK, hD9⟩, hS.F ht⟩) hS.2.2 dX12_places_24
  · skip
    have zh_5 : ¬ r_1.toInt = 0 := z_ne h_5
    refine lv_aload_n hx hb dX12_places_13 rfl (lv_at hl 0 rfl) ?_
    refine lv_iload_n hx hb dX12_places_14 rfl (lv_at hl 1 rfl) ?_
    refine lv_iconst (v := 0) hx hb dX12_places_15 (by decide) ?_
    obtain ⟨hPc, hDc, hFc⟩ := sub3 hP hD hS hA (ws' := [(mo, .inr (12, [.int 0, .ref m1, .ref m2, .ref m3, .ref m4, .ref m5, .int v6, .int v7, .int v8, .int v9, .int v10, .long v11, .int v12, .int v13, .int v14, .int v15, .ref m16, .ref m17, .ref m18, .ref m19, .ref m20, .ref m21, .ref m22, .ref m23, .int v24, .ref m25, .ref m26, .ref m27, .ref m28, .ref m29, .int v30, .ref m31, .ref m32, .ref m33, .int v34, .int v35, .int v36, .ref m37, .ref m38, .ref m39, .ref m40, .long v41])), (m17, .inl (k 0, 30, .inl f17)), (m18, .inl (k 0, 250, .inl f18)), (m19, .inl (k 0, 40, .inl f19)), (m22, .inl (k 0, 600, .inl f22)), (m25, .inl (k 0, 4, .inl f25)), (m26, .inl (k 0, 8, .inl f26))]) [6, 0, 1, 2, 3, 4, 5] (by decide +kernel) rfl
    refine va_calli (va_runV (C := RX12) (As := [.int p0, .int 0]) (rest := []) ⟨hx, hb, hml, hown, hts⟩ (c_X12_placesOf l D k mo p0 0 0 m1 m2 m3 m4 m5 v6 v7 v8 v9 v10 v11 v12 v13 v14 v15 m16 m17 m18 m19 m20 m21 m22 m23 v24 m25 m26 m27 m28 m29 v30 m31 m32 m33 v34 v35 v36 m37 m38 m39 m40 v41 f17 f18 f19 f22 f25 f26 H.size (show 0 ≤ v6.toInt ∧ v6.toInt ≤ 1000 from by omega) (show 0 ≤ v24.toInt ∧ v24.toInt ≤ 1023 from by omega) hp_f17_0 hp_f17_1 hp_f17_2 hp_f17_3 hp_f17_4 hp_f17_5 hp_f18_0 hp_f18_1 hp_f18_2 hp_f18_3 hp_f19_0 hp_f19_1 hp_f22_0 hp_f22_1 hp_f22_2 hp_f25_0 hp_f26_0) (cwV 2 hts (gV tw_8_121 tw_8_123 tw_p_87 tw_1_13 tw_8_124) rfl rfl rfl hdV_X12_placesOf ⟨Nat.le_of_ble_eq_true rfl, Nat.le_of_ble_eq_true rfl⟩) (cz_V hK hPc hDc hN (ci := 12) (q0 := 0) rfl rfl [.int p0, .int 0]) rfl rfl hl.1 rfl (lv_room (Nat.le_of_ble_eq_true rfl)) dX12_places_16 ⟨Nat.le_of_ble_eq_true rfl, Nat.le_of_ble_eq_true rfl⟩) hS (fun q _ h => hFc q h) hFc (fun r_6 uZ tZ H1 locs ht hvm hw hB hz1 hk1 hS => ?_)
    obtain ⟨o_7, o_8, o_9, o_10⟩ := uZ
    obtain ⟨hP1, hK1, hD1⟩ := hB
    rw [ht] at hP1
    obtain ⟨hP, hD⟩ := va_join (wr := [(m16, .inl (k 0, 5, .inl f16))]) (w1 := [(mo, .inr (12, [.int 0, .ref m1, .ref m2, .ref m3, .ref m4, .ref m5, .int v6, .int v7, .int v8, .int v9, .int v10, .long v11, .int v12, .int v13, .int v14, .int v15, .ref m16, .ref m17, .ref m18, .ref m19, .ref m20, .ref m21, .ref m22, .ref m23, .int o_7, .ref m25, .ref m26, .ref m27, .ref m28, .ref m29, .int v30, .ref m31, .ref m32, .ref m33, .int v34, .int v35, .int o_8, .ref m37, .ref m38, .ref m39, .ref m40, .long v41])), (m17, .inl (k 0, 30, .inl f17)), (m18, .inl (k 0, 250, .inl f18)), (m19, .inl (k 0, 40, .inl f19)), (m22, .inl (k 0, 600, .inl f22)), (m25, .inl (k 0, 4, .inl o_9)), (m26, .inl (k 0, 8, .inl o_10))]) hP hD [6, 0, 1, 2, 3, 4, 5] [7] rfl rfl (by decide +kernel) (by decide +kernel) hk1 hFc hP1 hD1
    clear hK1 hP1 hD1 hPc hDc hFc
    clear hk1 hz1 ht hvm
    have hP : va_P D vwCl [(m16, .inl (k 0, 5, .inl f16)), (mo, .inr (12, [.int 0, .ref m1, .ref m2, .ref m3, .ref m4, .ref m5, .int v6, .int v7, .int v8, .int v9, .int v10, .long v11, .int v12, .int v13, .int v14, .int v15, .ref m16, .ref m17, .ref m18, .ref m19, .ref m20, .ref m21, .ref m22, .ref m23, .int o_7, .ref m25, .ref m26, .ref m27, .ref m28, .ref m29, .int v30, .ref m31, .ref m32, .ref m33, .int v34, .int v35, .int o_8, .ref m37, .ref m38, .ref m39, .ref m40, .long v41])), (m17, .inl (k 0, 30, .inl f17)), (m18, .inl (k 0, 250, .inl f18)), (m19, .inl (k 0, 40, .inl f19)), (m22, .inl (k 0, 600, .inl f22)), (m25, .inl (k 0, 4, .inl o_9)), (m26, .inl (k 0, 8, .inl o_10))] H1 := hP
    have hD : va_D A [(m16, .inl (k 0, 5, .inl f16)), (mo, .inr (12, [.int 0, .ref m1, .ref m2, .ref m3, .ref m4, .ref m5, .int v6, .int v7, .int v8, .int v9, .int v10, .long v11, .int v12, .int v13, .int v14, .int v15, .ref m16, .ref m17, .ref m18, .ref m19, .ref m20, .ref m21, .ref m22, .ref m23, .int o_7, .ref m25, .ref m26, .ref m27, .ref m28, .ref m29, .int v30, .ref m31, .ref m32, .ref m33, .int v34, .int v35, .int o_8, .ref m37, .ref m38, .ref m39, .ref m40, .long v41])), (m17, .inl (k 0, 30, .inl f17)), (m18, .inl (k 0, 250, .inl f18)), (m19, .inl (k 0, 40, .inl f19)), (m22, .inl (k 0, 600, .inl f22)), (m25, .inl (k 0, 4, .inl o_9)), (m26, .inl (k 0, 8, .inl o_10))] := hD
    generalize H1 = H at hP hS ⊢
    have hw_11 : ((-1) ≤ r_6.toInt ∧ r_6.toInt ≤ 255) ∧ (0 ≤ o_7.toInt ∧ o_7.toInt ≤ 1023) ∧ (PR 4 1 0 0 99 o_9) ∧ (PR 8 1 0 0 100000 o_10) := hw
    obtain ⟨hw_12, hw_13, hw_14, hw_15⟩ := hw_11
    clear hw
    refine lv_goto (tgt := 24) hx hb dX12_places_19 (by decide) ?_
    obtain ⟨hP9, hD9⟩ := sub2 hP hD (ws' := [(mo, .inr (12, [.int 0, .ref m1, .ref m2, .ref m3, .ref m4, .ref m5, .int v6, .int v7, .int v8, .int v9, .int v10, .long v11, .int v12, .int v13, .int v14, .int v15, .ref m16, .ref m17, .ref m18, .ref m19, .ref m20, .ref m21, .ref m22, .ref m23, .int o_7, .ref m25, .ref m26, .ref m27, .ref m28, .ref m29, .int v30, .ref m31, .ref m32, .ref m33, .int v34, .int v35, .int o_8, .ref m37, .ref m38, .ref m39, .ref m40, .long v41])), (m16, .inl (k 0, 5, .inl f16)), (m17, .inl (k 0, 30, .inl f17)), (m18, .inl (k 0, 250, .inl f18)), (m19, .inl (k 0, 40, .inl f19)), (m22, .inl (k 0, 600, .inl f22)), (m25, .inl (k 0, 4, .inl o_9)), (m26, .inl (k 0, 8, .inl o_10))]) [1, 0, 2, 3, 4, 5, 6, 7] (by decide +kernel) rfl
    exact W.iret (v := r_6) hx hb hr (fun tZ ht hW => ⟨⟨r_6, (0, o_7, o_8, o_9, o_10), rfl, ⟨(show (-2) ≤ r_6.toInt ∧ r_6.toInt ≤ 255 from by omega), (show 0 ≤ 0 ∧ 0 ≤ 0 from by omega), (show 0 ≤ o_7.toInt ∧ o_7.toInt ≤ 1023 from by omega), hw_14, hw_15⟩, by rw [ht]; exact hP9, va_K.moved hW.alike hK, hD9⟩, hS.F ht⟩) hS.2.2 dX12_places_24
set_option maxHeartbeats 4000000 in
set_option maxRecDepth 100000 in
theorem c_X12_soon (l : Launch) (D : va_G) (k : Nat → ClassId) (mo : Nat) (p0 : Int32) (v0 : Int32) (m1 : Nat) (m2 : Nat) (m3 : Nat) (m4 : Nat) (m5 : Nat) (v6 : Int32) (v7 : Int32) (v8 : Int32) (v9 : Int32) (v10 : Int32) (v11 : Int64) (v12 : Int32) (v13 : Int32) (v14 : Int32) (v15 : Int32) (m16 : Nat) (m17 : Nat) (m18 : Nat) (m19 : Nat) (m20 : Nat) (m21 : Nat) (m22 : Nat) (m23 : Nat) (v24 : Int32) (m25 : Nat) (m26 : Nat) (m27 : Nat) (m28 : Nat) (m29 : Nat) (v30 : Int32) (m31 : Nat) (m32 : Nat) (m33 : Nat) (v34 : Int32) (v35 : Int32) (v36 : Int32) (m37 : Nat) (m38 : Nat) (m39 : Nat) (m40 : Nat) (v41 : Int64) (f16 : Nat → Int32) (f17 : Nat → Int32) (f18 : Nat → Int32) (f19 : Nat → Int32) (f22 : Nat → Int32) (f25 : Nat → Int32) (f26 : Nat → Int32) (sz : Nat) (h_v6 : 0 ≤ v6.toInt ∧ v6.toInt ≤ 1000) (h_v24 : 0 ≤ v24.toInt ∧ v24.toInt ≤ 1023) (hp_f17_0 : PR 30 6 0 0 8 f17) (hp_f17_1 : PR 30 6 1 0 10 f17) (hp_f17_2 : PR 30 6 2 0 4 f17) (hp_f17_3 : PR 30 6 3 0 6 f17) (hp_f17_4 : PR 30 6 4 0 2 f17) (hp_f17_5 : PR 30 6 5 0 40 f17) (hp_f18_0 : PR 250 5 0 0 7 f18) (hp_f18_1 : PR 250 5 1 0 7 f18) (hp_f18_2 : PR 250 5 2 0 60 f18) (hp_f18_3 : PR 250 5 3 0 10 f18) (hp_f19_0 : PR 40 2 0 0 7 f19) (hp_f19_1 : PR 40 2 1 0 99 f19) (hp_f22_0 : PR 600 3 1 0 9 f22) (hp_f22_1 : PR 600 3 2 0 99 f22) (hp_f22_2 : AK f22) (hp_f25_0 : PR 4 1 0 0 99 f25) (hp_f26_0 : PR 8 1 0 0 100000 f26) : Met l yX12_soon (ww yX12_soon cX12_soon 2 (some .int)) ({ frames := 4, cells := 0, slots := 0, locals := 96 }) (Pre0 D k [(mo, .inr (12, [.int v0, .ref m1, .ref m2, .ref m3, .ref m4, .ref m5, .int v6, .int v7, .int v8, .int v9, .int v10, .long v11, .int v12, .int v13, .int v14, .int v15, .ref m16, .ref m17, .ref m18, .ref m19, .ref m20, .ref m21, .ref m22, .ref m23, .int v24, .ref m25, .ref m26, .ref m27, .ref m28, .ref m29, .int v30, .ref m31, .ref m32, .ref m33, .int v34, .int v35, .int v36, .ref m37, .ref m38, .ref m39, .ref m40, .long v41])), (m16, .inl (k 0, 5, .inl f16)), (m17, .inl (k 0, 30, .inl f17)), (m18, .inl (k 0, 250, .inl f18)), (m19, .inl (k 0, 40, .inl f19)), (m22, .inl (k 0, 600, .inl f22)), (m25, .inl (k 0, 4, .inl f25)), (m26, .inl (k 0, 8, .inl f26))] sz [.ref mo, .int p0]) (va_Qi (fun (r : Int32) (u : Int32 × Int32 × Int32 × (Nat → Int32) × (Nat → Int32)) => match u with | (v0z, v24z, v36z, f25z, f26z) => (0 ≤ v0z.toInt ∧ v0z.toInt ≤ 0) ∧ (0 ≤ v24z.toInt ∧ v24z.toInt ≤ 1023) ∧ (PR 4 1 0 0 99 f25z) ∧ (PR 8 1 0 0 100000 f26z)) (fun (u : Int32 × Int32 × Int32 × (Nat → Int32) × (Nat → Int32)) tZ => match u with | (v0z, v24z, v36z, f25z, f26z) => Bw D k (va_A [(mo, .inr (12, [.int v0, .ref m1, .ref m2, .ref m3, .ref m4, .ref m5, .int v6, .int v7, .int v8, .int v9, .int v10, .long v11, .int v12, .int v13, .int v14, .int v15, .ref m16, .ref m17, .ref m18, .ref m19, .ref m20, .ref m21, .ref m22, .ref m23, .int v24, .ref m25, .ref m26, .ref m27, .ref m28, .ref m29, .int v30, .ref m31, .ref m32, .ref m33, .int v34, .int v35, .int v36, .ref m37, .ref m38, .ref m39, .ref m40, .long v41])), (m16, .inl (k 0, 5, .inl f16)), (m17, .inl (k 0, 30, .inl f17)), (m18, .inl (k 0, 250, .inl f18)), (m19, .inl (k 0, 40, .inl f19)), (m22, .inl (k 0, 600, .inl f22)), (m25, .inl (k 0, 4, .inl f25)), (m26, .inl (k 0, 8, .inl f26))] sz) [(mo, .inr (12, [.int v0z, .ref m1, .ref m2, .ref m3, .ref m4, .ref m5, .int v6, .int v7, .int v8, .int v9, .int v10, .long v11, .int v12, .int v13, .int v14, .int v15, .ref m16, .ref m17, .ref m18, .ref m19, .ref m20, .ref m21, .ref m22, .ref m23, .int v24z, .ref m25, .ref m26, .ref m27, .ref m28, .ref m29, .int v30, .ref m31, .ref m32, .ref m33, .int v34, .int v35, .int v36z, .ref m37, .ref m38, .ref m39, .ref m40, .long v41])), (m16, .inl (k 0, 5, .inl f16)), (m17, .inl (k 0, 30, .inl f17)), (m18, .inl (k 0, 250, .inl f18)), (m19, .inl (k 0, 40, .inl f19)), (m22, .inl (k 0, 600, .inl f22)), (m25, .inl (k 0, 4, .inl f25z)), (m26, .inl (k 0, 8, .inl f26z))] tZ) (va_A [(mo, .inr (12, [.int v0, .ref m1, .ref m2, .ref m3, .ref m4, .ref m5, .int v6, .int v7, .int v8, .int v9, .int v10, .long v11, .int v12, .int v13, .int v14, .int v15, .ref m16, .ref m17, .ref m18, .ref m19, .ref m20, .ref m21, .ref m22, .ref m23, .int v24, .ref m25, .ref m26, .ref m27, .ref m28, .ref m29, .int v30, .ref m31, .ref m32, .ref m33, .int v34, .int v35, .int v36, .ref m37, .ref m38, .ref m39, .ref m40, .long v41])), (m16, .inl (k 0, 5, .inl f16)), (m17, .inl (k 0, 30, .inl f17)), (m18, .inl (k 0, 250, .inl f18)), (m19, .inl (k 0, 40, .inl f19)), (m22, .inl (k 0, 600, .inl f22)), (m25, .inl (k 0, 4, .inl f25)), (m26, .inl (k 0, 8, .inl f26))] sz)) 0 0 (va_A [(mo, .inr (12, [.int v0, .ref m1, .ref m2, .ref m3, .ref m4, .ref m5, .int v6, .int v7, .int v8, .int v9, .int v10, .long v11, .int v12, .int v13, .int v14, .int v15, .ref m16, .ref m17, .ref m18, .ref m19, .ref m20, .ref m21, .ref m22, .ref m23, .int v24, .ref m25, .ref m26, .ref m27, .ref m28, .ref m29, .int v30, .ref m31, .ref m32, .ref m33, .int v34, .int v35, .int v36, .ref m37, .ref m38, .ref m39, .ref m40, .long v41])), (m16, .inl (k 0, 5, .inl f16)), (m17, .inl (k 0, 30, .inl f17)), (m18, .inl (k 0, 250, .inl f18)), (m19, .inl (k 0, 40, .inl f19)), (m22, .inl (k 0, 600, .inl f22)), (m25, .inl (k 0, 4, .inl f25)), (m26, .inl (k 0, 8, .inl f26))] sz) := by
  refine Met.ofW (cc := cX12_soon) (maxL := 2) (ret := (some .int)) (by decide +kernel) rfl ?_
  intro p e s m args below meth c s₁ B hml hv
  obtain ⟨rfl, hsz, hP, hK, hD0, hN⟩ := hv
  have hx := B.exec
  have hb := B.bytes
  have hr := B.returns
  have hts : ∀ w ∈ TT, w.before _ s = true := fun w h => atoms_spec (ws := ww yX12_soon cX12_soon 2 (some .int)) B.pre w (List.mem_cons_of_mem _ h)
  have hown : s.vm.findClass RX12 = some m.cls := findClass_of_methodNamed B.named
  have hlocks := B.notSynchronized
  subst hsz
  have hD := hD0.self (sz := s.heap.size)
  generalize hAe : va_A [(mo, .inr (12, [.int v0, .ref m1, .ref m2, .ref m3, .ref m4, .ref m5, .int v6, .int v7, .int v8, .int v9, .int v10, .long v11, .int v12, .int v13, .int v14, .int v15, .ref m16, .ref m17, .ref m18, .ref m19, .ref m20, .ref m21, .ref m22, .ref m23, .int v24, .ref m25, .ref m26, .ref m27, .ref m28, .ref m29, .int v30, .ref m31, .ref m32, .ref m33, .int v34, .int v35, .int v36, .ref m37, .ref m38, .ref m39, .ref m40, .long v41])), (m16, .inl (k 0, 5, .inl f16)), (m17, .inl (k 0, 30, .inl f17)), (m18, .inl (k 0, 250, .inl f18)), (m19, .inl (k 0, 40, .inl f19)), (m22, .inl (k 0, 600, .inl f22)), (m25, .inl (k 0, 4, .inl f25)), (m26, .inl (k 0, 8, .inl f26))] s.heap.size = A at hD ⊢
  have hA : ∀ q : Nat, s.heap.size ≤ q → A q := fun q h => by rw [← hAe]; exact Or.inr h
  have hS : va_S A s.heap s.heap [] := va_S.rf
  have hl := lv_entry ([.ref mo, .int p0]) (n := 2) (Nat.le_of_ble_eq_true rfl)
  rw [lg_entry_eq]
  generalize (lg_sl ([.ref mo, .int p0]) ++ List.replicate (2 - (lg_sl ([.ref mo, .int p0])).length) Slot.unset).toArray = ls at hl ⊢
  have hl : lv_has ls 2 [(0, .ref mo), (1, .int p0)] := hl
  refine lv_aload_n hx hb dX12_soon_0 rfl (lv_at hl 0 rfl) ?_
  refine lv_iconst (v := 0) hx hb dX12_soon_1 (by decide) ?_
  refine va_put (D := D) (ci := 12) (v := .int 0) (ty := tyX12 0) (C := RX12) (T := TX12) (N := 42) hx hb hts iT_X12 tyX12 tyX12_ok nmX12 hown hK hP hD hS 0 rfl rfl 0 (by decide) (hts _ tw_6_53) (fun _ h9 => h9) rfl (tyX12_ok 0 (by decide)) rfl rfl (Nat.le_of_ble_eq_true rfl) dX12_soon_2 (fun H locs hP hD hS => ?_)
  have hP : va_P D vwCl [(mo, .inr (12, [.int 0, .ref m1, .ref m2, .ref m3, .ref m4, .ref m5, .int v6, .int v7, .int v8, .int v9, .int v10, .long v11, .int v12, .int v13, .int v14, .int v15, .ref m16, .ref m17, .ref m18, .ref m19, .ref m20, .ref m21, .ref m22, .ref m23, .int v24, .ref m25, .ref m26, .ref m27, .ref m28, .ref m29, .int v30, .ref m31, .ref m32, .ref m33, .int v34, .int v35, .int v36, .ref m37, .ref m38, .ref m39, .ref m40, .long v41])), (m16, .inl (k 0, 5, .inl f16)), (m17, .inl (k 0, 30, .inl f17)), (m18, .inl (k 0, 250, .inl f18)), (m19, .inl (k 0, 40, .inl f19)), (m22, .inl (k 0, 600, .inl f22)), (m25, .inl (k 0, 4, .inl f25)), (m26, .inl (k 0, 8, .inl f26))] H := hP
  have hD : va_D A [(mo, .inr (12, [.int 0, .ref m1, .ref m2, .ref m3, .ref m4, .ref m5, .int v6, .int v7, .int v8, .int v9, .int v10, .long v11, .int v12, .int v13, .int v14, .int v15, .ref m16, .ref m17, .ref m18, .ref m19, .ref m20, .ref m21, .ref m22, .ref m23, .int v24, .ref m25, .ref m26, .ref m27, .ref m28, .ref m29, .int v30, .ref m31, .ref m32, .ref m33, .int v34, .int v35, .int v36, .ref m37, .ref m38, .ref m39, .ref m40, .long v41])), (m16, .inl (k 0, 5, .inl f16)), (m17, .inl (k 0, 30, .inl f17)), (m18, .inl (k 0, 250, .inl f18)), (m19, .inl (k 0, 40, .inl f19)), (m22, .inl (k 0, 600, .inl f22)), (m25, .inl (k 0, 4, .inl f25)), (m26, .inl (k 0, 8, .inl f26))] := hD
  refine lv_aload_n hx hb dX12_soon_5 rfl (lv_at hl 0 rfl) ?_
  refine lv_iload_n hx hb dX12_soon_6 rfl (lv_at hl 1 rfl) ?_
  obtain ⟨hPc, hDc, hFc⟩ := sub3 hP hD hS hA (ws' := [(mo, .inr (12, [.int 0, .ref m1, .ref m2, .ref m3, .ref m4, .ref m5, .int v6, .int v7, .int v8, .int v9, .int v10, .long v11, .int v12, .int v13, .int v14, .int v15, .ref m16, .ref m17, .ref m18, .ref m19, .ref m20, .ref m21, .ref m22, .ref m23, .int v24, .ref m25, .ref m26, .ref m27, .ref m28, .ref m29, .int v30, .ref m31, .ref m32, .ref m33, .int v34, .int v35, .int v36, .ref m37, .ref m38, .ref m39, .ref m40, .long v41])), (m16, .inl (k 0, 5, .inl f16))]) [0, 1] (by decide +kernel) rfl
  refine va_calli (va_runV (C := RX12) (As := [.int p0]) (rest := []) ⟨hx, hb, hml, hown, hts⟩ (c_X12_isPlace l D k mo p0 0 m1 m2 m3 m4 m5 v6 v7 v8 v9 v10 v11 v12 v13 v14 v15 m16 m17 m18 m19 m20 m21 m22 m23 v24 m25 m26 m27 m28 m29 v30 m31 m32 m33 v34 v35 v36 m37 m38 m39 m40 v41 f16 H.size (show 0 ≤ v6.toInt ∧ v6.toInt ≤ 1000 from by omega) (show 0 ≤ v24.toInt ∧ v24.toInt ≤ 1023 from by omega)) (cwV 1 hts (gV tw_8_117 tw_8_119 tw_p_86 tw_1_13 tw_8_120) rfl rfl rfl hdV_X12_isPlace ⟨Nat.le_of_ble_eq_true rfl, Nat.le_of_ble_eq_true rfl⟩) (cz_V hK hPc hDc hN (ci := 12) (q0 := 0) rfl rfl [.int p0]) rfl rfl hl.1 rfl (lv_room (Nat.le_of_ble_eq_true rfl)) dX12_soon_7 ⟨Nat.le_of_ble_eq_true rfl, Nat.le_of_ble_eq_true rfl⟩) hS (fun q _ h => hFc q h) hFc (fun r_1 uZ tZ H1 locs ht hvm hw hB hz1 hk1 hS => ?_)
  obtain ⟨hP1, hK1, hD1⟩ := hB
  rw [ht] at hP1
  obtain ⟨hP, hD⟩ := va_join (wr := [(m17, .inl (k 0, 30, .inl f17)), (m18, .inl (k 0, 250, .inl f18)), (m19, .inl (k 0, 40, .inl f19)), (m22, .inl (k 0, 600, .inl f22)), (m25, .inl (k 0, 4, .inl f25)), (m26, .inl (k 0, 8, .inl f26))]) (w1 := [(mo, .inr (12, [.int 0, .ref m1, .ref m2, .ref m3, .ref m4, .ref m5, .int v6, .int v7, .int v8, .int v9, .int v10, .long v11, .int v12, .int v13, .int v14, .int v15, .ref m16, .ref m17, .ref m18, .ref m19, .ref m20, .ref m21, .ref m22, .ref m23, .int v24, .ref m25, .ref m26, .ref m27, .ref m28, .ref m29, .int v30, .ref m31, .ref m32, .ref m33, .int v34, .int v35, .int v36, .ref m37, .ref m38, .ref m39, .ref m40, .long v41])), (m16, .inl (k 0, 5, .inl f16))]) hP hD [0, 1] [2, 3, 4, 5, 6, 7] rfl rfl (by decide +kernel) (by decide +kernel) hk1 hFc hP1 hD1
  clear hK1 hP1 hD1 hPc hDc hFc
  clear hk1 hz1 ht hvm
  have hP : va_P D vwCl [(m17, .inl (k 0, 30, .inl f17)), (m18, .inl (k 0, 250, .inl f18)), (m19, .inl (k 0, 40, .inl f19)), (m22, .inl (k 0, 600, .inl f22)), (m25, .inl (k 0, 4, .inl f25)), (m26, .inl (k 0, 8, .inl f26)), (mo, .inr (12, [.int 0, .ref m1, .ref m2, .ref m3, .ref m4, .ref m5, .int v6, .int v7, .int v8, .int v9, .int v10, .long v11, .int v12, .int v13, .int v14, .int v15, .ref m16, .ref m17, .ref m18, .ref m19, .ref m20, .ref m21, .ref m22, .ref m23, .int v24, .ref m25, .ref m26, .ref m27, .ref m28, .ref m29, .int v30, .ref m31, .ref m32, .ref m33, .int v34, .int v35, .int v36, .ref m37, .ref m38, .ref m39, .ref m40, .long v41])), (m16, .inl (k 0, 5, .inl f16))] H1 := hP
  have hD : va_D A [(m17, .inl (k 0, 30, .inl f17)), (m18, .inl (k 0, 250, .inl f18)), (m19, .inl (k 0, 40, .inl f19)), (m22, .inl (k 0, 600, .inl f22)), (m25, .inl (k 0, 4, .inl f25)), (m26, .inl (k 0, 8, .inl f26)), (mo, .inr (12, [.int 0, .ref m1, .ref m2, .ref m3, .ref m4, .ref m5, .int v6, .int v7, .int v8, .int v9, .int v10, .long v11, .int v12, .int v13, .int v14, .int v15, .ref m16, .ref m17, .ref m18, .ref m19, .ref m20, .ref m21, .ref m22, .ref m23, .int v24, .ref m25, .ref m26, .ref m27, .ref m28, .ref m29, .int v30, .ref m31, .ref m32, .ref m33, .int v34, .int v35, .int v36, .ref m37, .ref m38, .ref m39, .ref m40, .long v41])), (m16, .inl (k 0, 5, .inl f16))] := hD
  generalize H1 = H at hP hS ⊢
  have hw_2 : (0 ≤ r_1.toInt ∧ r_1.toInt ≤ 1) ∧ ((r_1.toInt = 1 ∧ 1 ≤ p0.toInt ∧ p0.toInt ≤ 4) ∨ r_1.toInt = 0) := hw
  obtain ⟨hw_3, hw_4⟩ := hw_2
  clear hw
  refine lv_if_ne (tgt := 16) hx hb dX12_soon_10 (by decide) (fun h_5 => ?_) (fun h_5 => ?_)
  · skip
    have zh_5 : ¬ r_1.toInt = 0 := z_ne h_5
    refine lv_aload_n hx hb dX12_soon_16 rfl (lv_at hl 0 rfl) ?_
    refine lv_iload_n hx hb dX12_soon_17 rfl (lv_at hl 1 rfl) ?_
    refine lv_iconst (v := 1) hx hb dX12_soon_18 (by decide) ?_
    obtain ⟨hPc, hDc, hFc⟩ := sub3 hP hD hS hA (ws' := [(mo, .inr (12, [.int 0, .ref m1, .ref m2, .ref m3, .ref m4, .ref m5, .int v6, .int v7, .int v8, .int v9, .int v10, .long v11, .int v12, .int v13, .int v14, .int v15, .ref m16, .ref m17, .ref m18, .ref m19, .ref m20, .ref m21, .ref m22, .ref m23, .int v24, .ref m25, .ref m26, .ref m27, .ref m28, .ref m29, .int v30, .ref m31, .ref m32, .ref m33, .int v34, .int v35, .int v36, .ref m37, .ref m38, .ref m39, .ref m40, .long v41])), (m17, .inl (k 0, 30, .inl f17)), (m18, .inl (k 0, 250, .inl f18)), (m19, .inl (k 0, 40, .inl f19)), (m22, .inl (k 0, 600, .inl f22)), (m25, .inl (k 0, 4, .inl f25)), (m26, .inl (k 0, 8, .inl f26))]) [6, 0, 1, 2, 3, 4, 5] (by decide +kernel) rfl
    refine va_calli (va_runV (C := RX12) (As := [.int p0, .int 1]) (rest := []) ⟨hx, hb, hml, hown, hts⟩ (c_X12_placesOf l D k mo p0 1 0 m1 m2 m3 m4 m5 v6 v7 v8 v9 v10 v11 v12 v13 v14 v15 m16 m17 m18 m19 m20 m21 m22 m23 v24 m25 m26 m27 m28 m29 v30 m31 m32 m33 v34 v35 v36 m37 m38 m39 m40 v41 f17 f18 f19 f22 f25 f26 H.size (show 0 ≤ v6.toInt ∧ v6.toInt ≤ 1000 from by omega) (show 0 ≤ v24.toInt ∧ v24.toInt ≤ 1023 from by omega) hp_f17_0 hp_f17_1 hp_f17_2 hp_f17_3 hp_f17_4 hp_f17_5 hp_f18_0 hp_f18_1 hp_f18_2 hp_f18_3 hp_f19_0 hp_f19_1 hp_f22_0 hp_f22_1 hp_f22_2 hp_f25_0 hp_f26_0) (cwV 2 hts (gV tw_8_121 tw_8_123 tw_p_87 tw_1_13 tw_8_124) rfl rfl rfl hdV_X12_placesOf ⟨Nat.le_of_ble_eq_true rfl, Nat.le_of_ble_eq_true rfl⟩) (cz_V hK hPc hDc hN (ci := 12) (q0 := 0) rfl rfl [.int p0, .int 1]) rfl rfl hl.1 rfl (lv_room (Nat.le_of_ble_eq_true rfl)) dX12_soon_19 ⟨Nat.le_of_ble_eq_true rfl, Nat.le_of_ble_eq_true rfl⟩) hS (fun q _ h => hFc q h) hFc (fun r_6 uZ tZ H1 locs ht hvm hw hB hz1 hk1 hS => ?_)
    obtain ⟨o_7, o_8, o_9, o_10⟩ := uZ
    obtain ⟨hP1, hK1, hD1⟩ := hB
    rw [ht] at hP1
    obtain ⟨hP, hD⟩ := va_join (wr := [(m16, .inl (k 0, 5, .inl f16))]) (w1 := [(mo, .inr (12, [.int 0, .ref m1, .ref m2, .ref m3, .ref m4, .ref m5, .int v6, .int v7, .int v8, .int v9, .int v10, .long v11, .int v12, .int v13, .int v14, .int v15, .ref m16, .ref m17, .ref m18, .ref m19, .ref m20, .ref m21, .ref m22, .ref m23, .int o_7, .ref m25, .ref m26, .ref m27, .ref m28, .ref m29, .int v30, .ref m31, .ref m32, .ref m33, .int v34, .int v35, .int o_8, .ref m37, .ref m38, .ref m39, .ref m40, .long v41])), (m17, .inl (k 0, 30, .inl f17)), (m18, .inl (k 0, 250, .inl f18)), (m19, .inl (k 0, 40, .inl f19)), (m22, .inl (k 0, 600, .inl f22)), (m25, .inl (k 0, 4, .inl o_9)), (m26, .inl (k 0, 8, .inl o_10))]) hP hD [6, 0, 1, 2, 3, 4, 5] [7] rfl rfl (by decide +kernel) (by decide +kernel) hk1 hFc hP1 hD1
    clear hK1 hP1 hD1 hPc hDc hFc
    clear hk1 hz1 ht hvm
    have hP : va_P D vwCl [(m16, .inl (k 0, 5, .inl f16)), (mo, .inr (12, [.int 0, .ref m1, .ref m2, .ref m3, .ref m4, .ref m5, .int v6, .int v7, .int v8, .int v9, .int v10, .long v11, .int v12, .int v13, .int v14, .int v15, .ref m16, .ref m17, .ref m18, .ref m19, .ref m20, .ref m21, .ref m22, .ref m23, .int o_7, .ref m25, .ref m26, .ref m27, .ref m28, .ref m29, .int v30, .ref m31, .ref m32, .ref m33, .int v34, .int v35, .int o_8, .ref m37, .ref m38, .ref m39, .ref m40, .long v41])), (m17, .inl (k 0, 30, .inl f17)), (m18, .inl (k 0, 250, .inl f18)), (m19, .inl (k 0, 40, .inl f19)), (m22, .inl (k 0, 600, .inl f22)), (m25, .inl (k 0, 4, .inl o_9)), (m26, .inl (k 0, 8, .inl o_10))] H1 := hP
    have hD : va_D A [(m16, .inl (k 0, 5, .inl f16)), (mo, .inr (12, [.int 0, .ref m1, .ref m2, .ref m3, .ref m4, .ref m5, .int v6, .int v7, .int v8, .int v9, .int v10, .long v11, .int v12, .int v13, .int v14, .int v15, .ref m16, .ref m17, .ref m18, .ref m19, .ref m20, .ref m21, .ref m22, .ref m23, .int o_7, .ref m25, .ref m26, .ref m27, .ref m28, .ref m29, .int v30, .ref m31, .ref m32, .ref m33, .int v34, .int v35, .int o_8, .ref m37, .ref m38, .ref m39, .ref m40, .long v41])), (m17, .inl (k 0, 30, .inl f17)), (m18, .inl (k 0, 250, .inl f18)), (m19, .inl (k 0, 40, .inl f19)), (m22, .inl (k 0, 600, .inl f22)), (m25, .inl (k 0, 4, .inl o_9)), (m26, .inl (k 0, 8, .inl o_10))] := hD
    generalize H1 = H at hP hS ⊢
    have hw_11 : ((-1) ≤ r_6.toInt ∧ r_6.toInt ≤ 255) ∧ (0 ≤ o_7.toInt ∧ o_7.toInt ≤ 1023) ∧ (PR 4 1 0 0 99 o_9) ∧ (PR 8 1 0 0 100000 o_10) := hw
    obtain ⟨hw_12, hw_13, hw_14, hw_15⟩ := hw_11
    clear hw
    refine lv_pop hx hb dX12_soon_22 rfl ?_
    refine lv_aload_n hx hb dX12_soon_23 rfl (lv_at hl 0 rfl) ?_
    refine va_get (D := D) (ci := 12) (v := .int o_8) (C := RX12) (T := TX12) (N := 42) hx hb hts iT_X12 hown hK hP 1 rfl rfl 36 (by decide) (hts _ tw_6_89) (fun _ h9 => h9) rfl dX12_soon_24 ?_
    obtain ⟨hP9, hD9⟩ := sub2 hP hD (ws' := [(mo, .inr (12, [.int 0, .ref m1, .ref m2, .ref m3, .ref m4, .ref m5, .int v6, .int v7, .int v8, .int v9, .int v10, .long v11, .int v12, .int v13, .int v14, .int v15, .ref m16, .ref m17, .ref m18, .ref m19, .ref m20, .ref m21, .ref m22, .ref m23, .int o_7, .ref m25, .ref m26, .ref m27, .ref m28, .ref m29, .int v30, .ref m31, .ref m32, .ref m33, .int v34, .int v35, .int o_8, .ref m37, .ref m38, .ref m39, .ref m40, .long v41])), (m16, .inl (k 0, 5, .inl f16)), (m17, .inl (k 0, 30, .inl f17)), (m18, .inl (k 0, 250, .inl f18)), (m19, .inl (k 0, 40, .inl f19)), (m22, .inl (k 0, 600, .inl f22)), (m25, .inl (k 0, 4, .inl o_9)), (m26, .inl (k 0, 8, .inl o_10))]) [1, 0, 2, 3, 4, 5, 6, 7] (by decide +kernel) rfl
    exact W.iret (v := o_8) hx hb hr (fun tZ ht hW => ⟨⟨o_8, (0, o_7, o_8, o_9, o_10), rfl, ⟨(show 0 ≤ 0 ∧ 0 ≤ 0 from by omega), (show 0 ≤ o_7.toInt ∧ o_7.toInt ≤ 1023 from by omega), hw_14, hw_15⟩, by rw [ht]; exact hP9, va_K.moved hW.alike hK, hD9⟩, hS.F ht⟩) hS.2.2 dX12_soon_27
  · skip
    have zh_5 : r_1.toInt = 0 := z_eq h_5
    refine lv_bipush (v := (-2)) hx hb dX12_soon_13 (by decide) ?_
    obtain ⟨hP9, hD9⟩ := sub2 hP hD (ws' := [(mo, .inr (12, [.int 0, .ref m1, .ref m2, .ref m3, .ref m4, .ref m5, .int v6, .int v7, .int v8, .int v9, .int v10, .long v11, .int v12, .int v13, .int v14, .int v15, .ref m16, .ref m17, .ref m18, .ref m19, .ref m20, .ref m21, .ref m22, .ref m23, .int v24, .ref m25, .ref m26, .ref m27, .ref m28, .ref m29, .int v30, .ref m31, .ref m32, .ref m33, .int v34, .int v35, .int v36, .ref m37, .ref m38, .ref m39, .ref m40, .long v41])), (m16, .inl (k 0, 5, .inl f16)), (m17, .inl (k 0, 30, .inl f17)), (m18, .inl (k 0, 250, .inl f18)), (m19, .inl (k 0, 40, .inl f19)), (m22, .inl (k 0, 600, .inl f22)), (m25, .inl (k 0, 4, .inl f25)), (m26, .inl (k 0, 8, .inl f26))]) [6, 7, 0, 1, 2, 3, 4, 5] (by decide +kernel) rfl
    exact W.iret (v := (-2)) hx hb hr (fun tZ ht hW => ⟨⟨(-2), (0, v24, v36, f25, f26), rfl, ⟨(show 0 ≤ 0 ∧ 0 ≤ 0 from by omega), (show 0 ≤ v24.toInt ∧ v24.toInt ≤ 1023 from by omega), hp_f25_0, hp_f26_0⟩, by rw [ht]; exact hP9, va_K.moved hW.alike hK, hD9⟩, hS.F ht⟩) hS.2.2 dX12_soon_15
set_option maxHeartbeats 4000000 in
set_option maxRecDepth 100000 in
theorem c_X12_packs_0 (l : Launch) (D : va_G) (k : Nat → ClassId) (mo : Nat) (p1 : Int32) (p2 : Int32) (v0 : Int32) (m1 : Nat) (m2 : Nat) (m3 : Nat) (m4 : Nat) (m5 : Nat) (v6 : Int32) (v7 : Int32) (v8 : Int32) (v9 : Int32) (v10 : Int32) (v11 : Int64) (v12 : Int32) (v13 : Int32) (v14 : Int32) (v15 : Int32) (m16 : Nat) (m17 : Nat) (m18 : Nat) (m19 : Nat) (m20 : Nat) (m21 : Nat) (m22 : Nat) (m23 : Nat) (v24 : Int32) (m25 : Nat) (m26 : Nat) (m27 : Nat) (m28 : Nat) (m29 : Nat) (v30 : Int32) (m31 : Nat) (m32 : Nat) (m33 : Nat) (v34 : Int32) (v35 : Int32) (v36 : Int32) (m37 : Nat) (m38 : Nat) (m39 : Nat) (m40 : Nat) (v41 : Int64) (f17 : Nat → Int32) (sz : Nat) (h_p1 : 0 ≤ p1.toInt ∧ p1.toInt ≤ 6) (h_p2 : 0 ≤ p2.toInt ∧ p2.toInt ≤ 6) (h_v6 : 0 ≤ v6.toInt ∧ v6.toInt ≤ 1000) (h_v24 : 0 ≤ v24.toInt ∧ v24.toInt ≤ 1023) (hp_f17_0 : PR 30 6 0 0 8 f17) (hp_f17_1 : PR 30 6 1 0 10 f17) (hp_f17_2 : PR 30 6 2 0 4 f17) (hp_f17_3 : PR 30 6 3 0 6 f17) (hp_f17_4 : PR 30 6 4 0 2 f17) (hp_f17_5 : PR 30 6 5 0 40 f17) (hh : 6 ≤ (f17 3).toInt) : Met l yX12_packs (ww yX12_packs cX12_packs 5 (some .boolean)) ({ frames := 0, cells := 0, slots := 0, locals := 0 }) (Pre0 D k [(mo, .inr (12, [.int v0, .ref m1, .ref m2, .ref m3, .ref m4, .ref m5, .int v6, .int v7, .int v8, .int v9, .int v10, .long v11, .int v12, .int v13, .int v14, .int v15, .ref m16, .ref m17, .ref m18, .ref m19, .ref m20, .ref m21, .ref m22, .ref m23, .int v24, .ref m25, .ref m26, .ref m27, .ref m28, .ref m29, .int v30, .ref m31, .ref m32, .ref m33, .int v34, .int v35, .int v36, .ref m37, .ref m38, .ref m39, .ref m40, .long v41])), (m17, .inl (k 0, 30, .inl f17))] sz [.ref mo, .int 6, .int p1, .int p2]) (va_Qi (fun (r : Int32) (_ : Unit) => (1 ≤ r.toInt ∧ r.toInt ≤ 1)) (fun (_ : Unit) tZ => Bw D k (va_A [(mo, .inr (12, [.int v0, .ref m1, .ref m2, .ref m3, .ref m4, .ref m5, .int v6, .int v7, .int v8, .int v9, .int v10, .long v11, .int v12, .int v13, .int v14, .int v15, .ref m16, .ref m17, .ref m18, .ref m19, .ref m20, .ref m21, .ref m22, .ref m23, .int v24, .ref m25, .ref m26, .ref m27, .ref m28, .ref m29, .int v30, .ref m31, .ref m32, .ref m33, .int v34, .int v35, .int v36, .ref m37, .ref m38, .ref m39, .ref m40, .long v41])), (m17, .inl (k 0, 30, .inl f17))] sz) [(mo, .inr (12, [.int v0, .ref m1, .ref m2, .ref m3, .ref m4, .ref m5, .int v6, .int v7, .int v8, .int v9, .int v10, .long v11, .int v12, .int v13, .int v14, .int v15, .ref m16, .ref m17, .ref m18, .ref m19, .ref m20, .ref m21, .ref m22, .ref m23, .int v24, .ref m25, .ref m26, .ref m27, .ref m28, .ref m29, .int v30, .ref m31, .ref m32, .ref m33, .int v34, .int v35, .int v36, .ref m37, .ref m38, .ref m39, .ref m40, .long v41])), (m17, .inl (k 0, 30, .inl f17))] tZ) (va_A [(mo, .inr (12, [.int v0, .ref m1, .ref m2, .ref m3, .ref m4, .ref m5, .int v6, .int v7, .int v8, .int v9, .int v10, .long v11, .int v12, .int v13, .int v14, .int v15, .ref m16, .ref m17, .ref m18, .ref m19, .ref m20, .ref m21, .ref m22, .ref m23, .int v24, .ref m25, .ref m26, .ref m27, .ref m28, .ref m29, .int v30, .ref m31, .ref m32, .ref m33, .int v34, .int v35, .int v36, .ref m37, .ref m38, .ref m39, .ref m40, .long v41])), (m17, .inl (k 0, 30, .inl f17))] sz)) 0 0 (va_A [(mo, .inr (12, [.int v0, .ref m1, .ref m2, .ref m3, .ref m4, .ref m5, .int v6, .int v7, .int v8, .int v9, .int v10, .long v11, .int v12, .int v13, .int v14, .int v15, .ref m16, .ref m17, .ref m18, .ref m19, .ref m20, .ref m21, .ref m22, .ref m23, .int v24, .ref m25, .ref m26, .ref m27, .ref m28, .ref m29, .int v30, .ref m31, .ref m32, .ref m33, .int v34, .int v35, .int v36, .ref m37, .ref m38, .ref m39, .ref m40, .long v41])), (m17, .inl (k 0, 30, .inl f17))] sz) := by
  refine Met.ofW (cc := cX12_packs) (maxL := 5) (ret := (some .boolean)) (by decide +kernel) rfl ?_
  intro p e s m args below meth c s₁ B hml hv
  obtain ⟨rfl, hsz, hP, hK, hD0, hN⟩ := hv
  have hx := B.exec
  have hb := B.bytes
  have hr := B.returns
  have hts : ∀ w ∈ TT, w.before _ s = true := fun w h => atoms_spec (ws := ww yX12_packs cX12_packs 5 (some .boolean)) B.pre w (List.mem_cons_of_mem _ h)
  have hown : s.vm.findClass RX12 = some m.cls := findClass_of_methodNamed B.named
  have hlocks := B.notSynchronized
  subst hsz
  have hD := hD0.self (sz := s.heap.size)
  generalize hAe : va_A [(mo, .inr (12, [.int v0, .ref m1, .ref m2, .ref m3, .ref m4, .ref m5, .int v6, .int v7, .int v8, .int v9, .int v10, .long v11, .int v12, .int v13, .int v14, .int v15, .ref m16, .ref m17, .ref m18, .ref m19, .ref m20, .ref m21, .ref m22, .ref m23, .int v24, .ref m25, .ref m26, .ref m27, .ref m28, .ref m29, .int v30, .ref m31, .ref m32, .ref m33, .int v34, .int v35, .int v36, .ref m37, .ref m38, .ref m39, .ref m40, .long v41])), (m17, .inl (k 0, 30, .inl f17))] s.heap.size = A at hD ⊢
  have hA : ∀ q : Nat, s.heap.size ≤ q → A q := fun q h => by rw [← hAe]; exact Or.inr h
  have hS : va_S A s.heap s.heap [] := va_S.rf
  have hl := lv_entry ([.ref mo, .int 6, .int p1, .int p2]) (n := 5) (Nat.le_of_ble_eq_true rfl)
  rw [lg_entry_eq]
  generalize (lg_sl ([.ref mo, .int 6, .int p1, .int p2]) ++ List.replicate (5 - (lg_sl ([.ref mo, .int 6, .int p1, .int p2])).length) Slot.unset).toArray = ls at hl ⊢
  have hl : lv_has ls 5 [(0, .ref mo), (1, .int 6), (2, .int p1), (3, .int p2)] := hl
  refine lv_iload_n hx hb dX12_packs_0 rfl (lv_at hl 1 rfl) ?_
  refine lv_aload_n hx hb dX12_packs_1 rfl (lv_at hl 0 rfl) ?_
  refine va_get (D := D) (ci := 12) (v := .ref m17) (C := RX12) (T := TX12) (N := 42) hx hb hts iT_X12 hown hK hP 0 rfl rfl 17 (by decide) (hts _ tw_6_70) (fun _ h9 => h9) rfl dX12_packs_2 ?_
  refine lv_iconst (v := 3) hx hb dX12_packs_5 (by decide) ?_
  refine va_iald hx hb hK hP 1 0 rfl rfl (z_in (by decide) (by decide)) dX12_packs_6 ?_
  refine lv_topi (fun x_1 ex_1 => ?_)
  have zx_1r3 : 0 ≤ x_1.toInt ∧ x_1.toInt ≤ 6 := by rw [ex_1]; exact PR.ld hp_f17_3 (by decide) (by decide) (by decide)
  have zpx_1 : 6 ≤ x_1.toInt := by rw [ex_1]; exact hh
  refine lv_icmp_ne (tgt := 12) hx hb dX12_packs_7 (by decide) (fun h_2 => ?_) (fun h_2 => ?_)
  · skip
    have zh_2 : ¬ 6 = x_1.toInt := z_ne h_2
    exact False.elim (by omega)
  · skip
    have zh_2 : 6 = x_1.toInt := z_eq h_2
    refine lv_iconst (v := 1) hx hb dX12_packs_10 (by decide) ?_
    obtain ⟨hP9, hD9⟩ := sub2 hP hD (ws' := [(mo, .inr (12, [.int v0, .ref m1, .ref m2, .ref m3, .ref m4, .ref m5, .int v6, .int v7, .int v8, .int v9, .int v10, .long v11, .int v12, .int v13, .int v14, .int v15, .ref m16, .ref m17, .ref m18, .ref m19, .ref m20, .ref m21, .ref m22, .ref m23, .int v24, .ref m25, .ref m26, .ref m27, .ref m28, .ref m29, .int v30, .ref m31, .ref m32, .ref m33, .int v34, .int v35, .int v36, .ref m37, .ref m38, .ref m39, .ref m40, .long v41])), (m17, .inl (k 0, 30, .inl f17))]) [0, 1] (by decide +kernel) rfl
    exact W.zret (v := 1) hx hb hr (by decide) (fun tZ ht hW => ⟨⟨1, (), rfl, (show 1 ≤ 1 ∧ 1 ≤ 1 from by omega), by rw [ht]; exact hP9, va_K.moved hW.alike hK, hD9⟩, hS.F ht⟩) hS.2.2 dX12_packs_11
set_option maxHeartbeats 4000000 in
set_option maxRecDepth 100000 in
theorem c_X12_packs_1 (l : Launch) (D : va_G) (k : Nat → ClassId) (mo : Nat) (p1 : Int32) (p2 : Int32) (v0 : Int32) (m1 : Nat) (m2 : Nat) (m3 : Nat) (m4 : Nat) (m5 : Nat) (v6 : Int32) (v7 : Int32) (v8 : Int32) (v9 : Int32) (v10 : Int32) (v11 : Int64) (v12 : Int32) (v13 : Int32) (v14 : Int32) (v15 : Int32) (m16 : Nat) (m17 : Nat) (m18 : Nat) (m19 : Nat) (m20 : Nat) (m21 : Nat) (m22 : Nat) (m23 : Nat) (v24 : Int32) (m25 : Nat) (m26 : Nat) (m27 : Nat) (m28 : Nat) (m29 : Nat) (v30 : Int32) (m31 : Nat) (m32 : Nat) (m33 : Nat) (v34 : Int32) (v35 : Int32) (v36 : Int32) (m37 : Nat) (m38 : Nat) (m39 : Nat) (m40 : Nat) (v41 : Int64) (f17 : Nat → Int32) (f20 : Nat → Int32) (f37 : Nat → Int32) (f38 : Nat → Int32) (sz : Nat) (h_p1 : 0 ≤ p1.toInt ∧ p1.toInt ≤ 5) (h_p2 : 0 ≤ p2.toInt ∧ p2.toInt ≤ 6) (h_v6 : 0 ≤ v6.toInt ∧ v6.toInt ≤ 1000) (h_v24 : 0 ≤ v24.toInt ∧ v24.toInt ≤ 1023) (hp_f17_0 : PR 30 6 0 0 8 f17) (hp_f17_1 : PR 30 6 1 0 10 f17) (hp_f17_2 : PR 30 6 2 0 4 f17) (hp_f17_3 : PR 30 6 3 0 6 f17) (hp_f17_4 : PR 30 6 4 0 2 f17) (hp_f17_5 : PR 30 6 5 0 40 f17) (hp_f20_0 : PR 120 4 0 0 7 f20) (hh : 5 ≤ (f17 3).toInt) : Met l yX12_packs (ww yX12_packs cX12_packs 5 (some .boolean)) ({ frames := 1, cells := 0, slots := 0, locals := 24 }) (Pre0 D k [(mo, .inr (12, [.int v0, .ref m1, .ref m2, .ref m3, .ref m4, .ref m5, .int v6, .int v7, .int v8, .int v9, .int v10, .long v11, .int v12, .int v13, .int v14, .int v15, .ref m16, .ref m17, .ref m18, .ref m19, .ref m20, .ref m21, .ref m22, .ref m23, .int v24, .ref m25, .ref m26, .ref m27, .ref m28, .ref m29, .int v30, .ref m31, .ref m32, .ref m33, .int v34, .int v35, .int v36, .ref m37, .ref m38, .ref m39, .ref m40, .long v41])), (m17, .inl (k 0, 30, .inl f17)), (m20, .inl (k 0, 120, .inl f20)), (m37, .inl (k 0, 6, .inl f37)), (m38, .inl (k 0, 6, .inl f38))] sz [.ref mo, .int 5, .int p1, .int p2]) (va_Qi (fun (r : Int32) (u : (Nat → Int32) × (Nat → Int32)) => match u with | (f37z, f38z) => (0 ≤ r.toInt ∧ r.toInt ≤ 1)) (fun (u : (Nat → Int32) × (Nat → Int32)) tZ => match u with | (f37z, f38z) => Bw D k (va_A [(mo, .inr (12, [.int v0, .ref m1, .ref m2, .ref m3, .ref m4, .ref m5, .int v6, .int v7, .int v8, .int v9, .int v10, .long v11, .int v12, .int v13, .int v14, .int v15, .ref m16, .ref m17, .ref m18, .ref m19, .ref m20, .ref m21, .ref m22, .ref m23, .int v24, .ref m25, .ref m26, .ref m27, .ref m28, .ref m29, .int v30, .ref m31, .ref m32, .ref m33, .int v34, .int v35, .int v36, .ref m37, .ref m38, .ref m39, .ref m40, .long v41])), (m17, .inl (k 0, 30, .inl f17)), (m20, .inl (k 0, 120, .inl f20)), (m37, .inl (k 0, 6, .inl f37)), (m38, .inl (k 0, 6, .inl f38))] sz) [(mo, .inr (12, [.int v0, .ref m1, .ref m2, .ref m3, .ref m4, .ref m5, .int v6, .int v7, .int v8, .int v9, .int v10, .long v11, .int v12, .int v13, .int v14, .int v15, .ref m16, .ref m17, .ref m18, .ref m19, .ref m20, .ref m21, .ref m22, .ref m23, .int v24, .ref m25, .ref m26, .ref m27, .ref m28, .ref m29, .int v30, .ref m31, .ref m32, .ref m33, .int v34, .int v35, .int v36, .ref m37, .ref m38, .ref m39, .ref m40, .long v41])), (m17, .inl (k 0, 30, .inl f17)), (m20, .inl (k 0, 120, .inl f20)), (m37, .inl (k 0, 6, .inl f37z)), (m38, .inl (k 0, 6, .inl f38z))] tZ) (va_A [(mo, .inr (12, [.int v0, .ref m1, .ref m2, .ref m3, .ref m4, .ref m5, .int v6, .int v7, .int v8, .int v9, .int v10, .long v11, .int v12, .int v13, .int v14, .int v15, .ref m16, .ref m17, .ref m18, .ref m19, .ref m20, .ref m21, .ref m22, .ref m23, .int v24, .ref m25, .ref m26, .ref m27, .ref m28, .ref m29, .int v30, .ref m31, .ref m32, .ref m33, .int v34, .int v35, .int v36, .ref m37, .ref m38, .ref m39, .ref m40, .long v41])), (m17, .inl (k 0, 30, .inl f17)), (m20, .inl (k 0, 120, .inl f20)), (m37, .inl (k 0, 6, .inl f37)), (m38, .inl (k 0, 6, .inl f38))] sz)) 0 0 (va_A [(mo, .inr (12, [.int v0, .ref m1, .ref m2, .ref m3, .ref m4, .ref m5, .int v6, .int v7, .int v8, .int v9, .int v10, .long v11, .int v12, .int v13, .int v14, .int v15, .ref m16, .ref m17, .ref m18, .ref m19, .ref m20, .ref m21, .ref m22, .ref m23, .int v24, .ref m25, .ref m26, .ref m27, .ref m28, .ref m29, .int v30, .ref m31, .ref m32, .ref m33, .int v34, .int v35, .int v36, .ref m37, .ref m38, .ref m39, .ref m40, .long v41])), (m17, .inl (k 0, 30, .inl f17)), (m20, .inl (k 0, 120, .inl f20)), (m37, .inl (k 0, 6, .inl f37)), (m38, .inl (k 0, 6, .inl f38))] sz) := by
  refine Met.ofW (cc := cX12_packs) (maxL := 5) (ret := (some .boolean)) (by decide +kernel) rfl ?_
  intro p e s m args below meth c s₁ B hml hv
  obtain ⟨rfl, hsz, hP, hK, hD0, hN⟩ := hv
  have hx := B.exec
  have hb := B.bytes
  have hr := B.returns
  have hts : ∀ w ∈ TT, w.before _ s = true := fun w h => atoms_spec (ws := ww yX12_packs cX12_packs 5 (some .boolean)) B.pre w (List.mem_cons_of_mem _ h)
  have hown : s.vm.findClass RX12 = some m.cls := findClass_of_methodNamed B.named
  have hlocks := B.notSynchronized
  subst hsz
  have hD := hD0.self (sz := s.heap.size)
  generalize hAe : va_A [(mo, .inr (12, [.int v0, .ref m1, .ref m2, .ref m3, .ref m4, .ref m5, .int v6, .int v7, .int v8, .int v9, .int v10, .long v11, .int v12, .int v13, .int v14, .int v15, .ref m16, .ref m17, .ref m18, .ref m19, .ref m20, .ref m21, .ref m22, .ref m23, .int v24, .ref m25, .ref m26, .ref m27, .ref m28, .ref m29, .int v30, .ref m31, .ref m32, .ref m33, .int v34, .int v35, .int v36, .ref m37, .ref m38, .ref m39, .ref m40, .long v41])), (m17, .inl (k 0, 30, .inl f17)), (m20, .inl (k 0, 120, .inl f20)), (m37, .inl (k 0, 6, .inl f37)), (m38, .inl (k 0, 6, .inl f38))] s.heap.size = A at hD ⊢
  have hA : ∀ q : Nat, s.heap.size ≤ q → A q := fun q h => by rw [← hAe]; exact Or.inr h
  have hS : va_S A s.heap s.heap [] := va_S.rf
  have hl := lv_entry ([.ref mo, .int 5, .int p1, .int p2]) (n := 5) (Nat.le_of_ble_eq_true rfl)
  rw [lg_entry_eq]
  generalize (lg_sl ([.ref mo, .int 5, .int p1, .int p2]) ++ List.replicate (5 - (lg_sl ([.ref mo, .int 5, .int p1, .int p2])).length) Slot.unset).toArray = ls at hl ⊢
  have hl : lv_has ls 5 [(0, .ref mo), (1, .int 5), (2, .int p1), (3, .int p2)] := hl
  refine lv_iload_n hx hb dX12_packs_0 rfl (lv_at hl 1 rfl) ?_
  refine lv_aload_n hx hb dX12_packs_1 rfl (lv_at hl 0 rfl) ?_
  refine va_get (D := D) (ci := 12) (v := .ref m17) (C := RX12) (T := TX12) (N := 42) hx hb hts iT_X12 hown hK hP 0 rfl rfl 17 (by decide) (hts _ tw_6_70) (fun _ h9 => h9) rfl dX12_packs_2 ?_
  refine lv_iconst (v := 3) hx hb dX12_packs_5 (by decide) ?_
  refine va_iald hx hb hK hP 1 0 rfl rfl (z_in (by decide) (by decide)) dX12_packs_6 ?_
  refine lv_topi (fun x_1 ex_1 => ?_)
  have zx_1r3 : 0 ≤ x_1.toInt ∧ x_1.toInt ≤ 6 := by rw [ex_1]; exact PR.ld hp_f17_3 (by decide) (by decide) (by decide)
  have zpx_1 : 5 ≤ x_1.toInt := by rw [ex_1]; exact hh
  refine lv_icmp_ne (tgt := 12) hx hb dX12_packs_7 (by decide) (fun h_2 => ?_) (fun h_2 => ?_)
  · skip
    have zh_2 : ¬ 5 = x_1.toInt := z_ne h_2
    refine lv_iconst (v := 0) hx hb dX12_packs_12 (by decide) ?_
    refine lv_istore (lv' := [(4, .int 0), (0, .ref mo), (1, .int 5), (2, .int p1), (3, .int p2)]) hx hb dX12_packs_13 hl (by decide) rfl (fun ls hl => ?_)
    refine loop_r (Wg := fun H locs ls => W p l e _ s m _ below meth c H locs _ _ _ (F0 m 15 ls [])) (fun n9 H locs ls => ∃ (L15l4 : Int32), n9 = (6 - L15l4.toInt).toNat ∧ (0 ≤ L15l4.toInt ∧ L15l4.toInt ≤ 6) ∧ va_P D vwCl [(mo, .inr (12, [.int v0, .ref m1, .ref m2, .ref m3, .ref m4, .ref m5, .int v6, .int v7, .int v8, .int v9, .int v10, .long v11, .int v12, .int v13, .int v14, .int v15, .ref m16, .ref m17, .ref m18, .ref m19, .ref m20, .ref m21, .ref m22, .ref m23, .int v24, .ref m25, .ref m26, .ref m27, .ref m28, .ref m29, .int v30, .ref m31, .ref m32, .ref m33, .int v34, .int v35, .int v36, .ref m37, .ref m38, .ref m39, .ref m40, .long v41])), (m17, .inl (k 0, 30, .inl f17)), (m20, .inl (k 0, 120, .inl f20)), (m37, .inl (k 0, 6, .inl f37)), (m38, .inl (k 0, 6, .inl f38))] H ∧ va_D A [(mo, .inr (12, [.int v0, .ref m1, .ref m2, .ref m3, .ref m4, .ref m5, .int v6, .int v7, .int v8, .int v9, .int v10, .long v11, .int v12, .int v13, .int v14, .int v15, .ref m16, .ref m17, .ref m18, .ref m19, .ref m20, .ref m21, .ref m22, .ref m23, .int v24, .ref m25, .ref m26, .ref m27, .ref m28, .ref m29, .int v30, .ref m31, .ref m32, .ref m33, .int v34, .int v35, .int v36, .ref m37, .ref m38, .ref m39, .ref m40, .long v41])), (m17, .inl (k 0, 30, .inl f17)), (m20, .inl (k 0, 120, .inl f20)), (m37, .inl (k 0, 6, .inl f37)), (m38, .inl (k 0, 6, .inl f38))] ∧ va_S A s.heap H locs ∧ lv_has ls 5 [(0, .ref mo), (1, .int 5), (2, .int p1), (3, .int p2), (4, .int L15l4)]) (fun n9 H locs ls hI ih_3 => ?_) _ _ _ _ ⟨0, rfl, (show 0 ≤ 0 ∧ 0 ≤ 6 from by omega), hP.sub (ws' := [(mo, .inr (12, [.int v0, .ref m1, .ref m2, .ref m3, .ref m4, .ref m5, .int v6, .int v7, .int v8, .int v9, .int v10, .long v11, .int v12, .int v13, .int v14, .int v15, .ref m16, .ref m17, .ref m18, .ref m19, .ref m20, .ref m21, .ref m22, .ref m23, .int v24, .ref m25, .ref m26, .ref m27, .ref m28, .ref m29, .int v30, .ref m31, .ref m32, .ref m33, .int v34, .int v35, .int v36, .ref m37, .ref m38, .ref m39, .ref m40, .long v41])), (m17, .inl (k 0, 30, .inl f17)), (m20, .inl (k 0, 120, .inl f20)), (m37, .inl (k 0, 6, .inl f37)), (m38, .inl (k 0, 6, .inl f38))]) [0, 1, 2, 3, 4] rfl, hD.sub (ws' := [(mo, .inr (12, [.int v0, .ref m1, .ref m2, .ref m3, .ref m4, .ref m5, .int v6, .int v7, .int v8, .int v9, .int v10, .long v11, .int v12, .int v13, .int v14, .int v15, .ref m16, .ref m17, .ref m18, .ref m19, .ref m20, .ref m21, .ref m22, .ref m23, .int v24, .ref m25, .ref m26, .ref m27, .ref m28, .ref m29, .int v30, .ref m31, .ref m32, .ref m33, .int v34, .int v35, .int v36, .ref m37, .ref m38, .ref m39, .ref m40, .long v41])), (m17, .inl (k 0, 30, .inl f17)), (m20, .inl (k 0, 120, .inl f20)), (m37, .inl (k 0, 6, .inl f37)), (m38, .inl (k 0, 6, .inl f38))]) [0, 1, 2, 3, 4] (by decide +kernel) rfl, hS, lv_sub hl [1, 2, 3, 4, 0] rfl⟩
    clear hP hD hS hl
    obtain ⟨L15l4, en_4, zL15l4, hP, hD, hS, hl⟩ := hI
    refine lv_iload hx hb dX12_packs_15 (lv_at hl 4 rfl) ?_
    refine lv_iload_n hx hb dX12_packs_17 rfl (lv_at hl 2 rfl) ?_
    refine lv_icmp_gt (tgt := 130) hx hb dX12_packs_18 (by decide) (fun h_5 => ?_) (fun h_5 => ?_)
    · skip
      have zh_5 : p1.toInt < L15l4.toInt := z_lt h_5
      refine lv_iconst (v := 0) hx hb dX12_packs_130 (by decide) ?_
      obtain ⟨hP9, hD9⟩ := sub2 hP hD (ws' := [(mo, .inr (12, [.int v0, .ref m1, .ref m2, .ref m3, .ref m4, .ref m5, .int v6, .int v7, .int v8, .int v9, .int v10, .long v11, .int v12, .int v13, .int v14, .int v15, .ref m16, .ref m17, .ref m18, .ref m19, .ref m20, .ref m21, .ref m22, .ref m23, .int v24, .ref m25, .ref m26, .ref m27, .ref m28, .ref m29, .int v30, .ref m31, .ref m32, .ref m33, .int v34, .int v35, .int v36, .ref m37, .ref m38, .ref m39, .ref m40, .long v41])), (m17, .inl (k 0, 30, .inl f17)), (m20, .inl (k 0, 120, .inl f20)), (m37, .inl (k 0, 6, .inl f37)), (m38, .inl (k 0, 6, .inl f38))]) [0, 1, 2, 3, 4] (by decide +kernel) rfl
      exact W.zret (v := 0) hx hb hr (by decide) (fun tZ ht hW => ⟨⟨0, (f37, f38), rfl, (show 0 ≤ 0 ∧ 0 ≤ 1 from by omega), by rw [ht]; exact hP9, va_K.moved hW.alike hK, hD9⟩, hS.F ht⟩) hS.2.2 dX12_packs_131
    · skip
      have zh_5 : L15l4.toInt ≤ p1.toInt := z_nlt h_5
      refine lv_iload hx hb dX12_packs_21 (lv_at hl 4 rfl) ?_
      refine lv_iload_n hx hb dX12_packs_23 rfl (lv_at hl 3 rfl) ?_
      refine lv_icmp_ge (tgt := 130) hx hb dX12_packs_24 (by decide) (fun h_6 => ?_) (fun h_6 => ?_)
      · skip
        have zh_6 : p2.toInt ≤ L15l4.toInt := z_le h_6
        refine lv_iconst (v := 0) hx hb dX12_packs_130 (by decide) ?_
        obtain ⟨hP9, hD9⟩ := sub2 hP hD (ws' := [(mo, .inr (12, [.int v0, .ref m1, .ref m2, .ref m3, .ref m4, .ref m5, .int v6, .int v7, .int v8, .int v9, .int v10, .long v11, .int v12, .int v13, .int v14, .int v15, .ref m16, .ref m17, .ref m18, .ref m19, .ref m20, .ref m21, .ref m22, .ref m23, .int v24, .ref m25, .ref m26, .ref m27, .ref m28, .ref m29, .int v30, .ref m31, .ref m32, .ref m33, .int v34, .int v35, .int v36, .ref m37, .ref m38, .ref m39, .ref m40, .long v41])), (m17, .inl (k 0, 30, .inl f17)), (m20, .inl (k 0, 120, .inl f20)), (m37, .inl (k 0, 6, .inl f37)), (m38, .inl (k 0, 6, .inl f38))]) [0, 1, 2, 3, 4] (by decide +kernel) rfl
        exact W.zret (v := 0) hx hb hr (by decide) (fun tZ ht hW => ⟨⟨0, (f37, f38), rfl, (show 0 ≤ 0 ∧ 0 ≤ 1 from by omega), by rw [ht]; exact hP9, va_K.moved hW.alike hK, hD9⟩, hS.F ht⟩) hS.2.2 dX12_packs_131
      · skip
        have zh_6 : L15l4.toInt < p2.toInt := z_nle h_6
        refine lv_aload_n hx hb dX12_packs_27 rfl (lv_at hl 0 rfl) ?_
        refine va_get (D := D) (ci := 12) (v := .ref m37) (C := RX12) (T := TX12) (N := 42) hx hb hts iT_X12 hown hK hP 0 rfl rfl 37 (by decide) (hts _ tw_6_90) (fun _ h9 => h9) rfl dX12_packs_28 ?_
        refine lv_iload hx hb dX12_packs_31 (lv_at hl 4 rfl) ?_
        refine va_iald hx hb hK hP 3 0 rfl rfl (z_in (by omega) (by omega)) dX12_packs_33 ?_
        refine lv_topi (fun x_7 ex_7 => ?_)
        refine lv_aload_n hx hb dX12_packs_34 rfl (lv_at hl 0 rfl) ?_
        refine va_get (D := D) (ci := 12) (v := .ref m20) (C := RX12) (T := TX12) (N := 42) hx hb hts iT_X12 hown hK hP 0 rfl rfl 20 (by decide) (hts _ tw_6_73) (fun _ h9 => h9) rfl dX12_packs_35 ?_
        refine lv_iconst (v := 4) hx hb dX12_packs_38 (by decide) ?_
        refine lv_iload_n hx hb dX12_packs_39 rfl (lv_at hl 1 rfl) ?_
        refine lv_imul hx hb dX12_packs_40 ?_
        refine lv_topi (fun x_8 ex_8 => ?_)
        obtain rfl : x_8 = 20 := ex_8.trans (by decide)
        refine lv_iconst (v := 3) hx hb dX12_packs_41 (by decide) ?_
        refine lv_iadd hx hb dX12_packs_42 ?_
        refine lv_topi (fun x_9 ex_9 => ?_)
        obtain rfl : x_9 = 23 := ex_9.trans (by decide)
        refine va_iald hx hb hK hP 2 0 rfl rfl (z_in (by decide) (by decide)) dX12_packs_43 ?_
        refine lv_topi (fun x_10 ex_10 => ?_)
        refine lv_icmp_ge (tgt := 50) hx hb dX12_packs_44 (by decide) (fun h_11 => ?_) (fun h_11 => ?_)
        · skip
          have zh_11 : x_10.toInt ≤ x_7.toInt := z_le h_11
          refine lv_aload_n hx hb dX12_packs_50 rfl (lv_at hl 0 rfl) ?_
          refine va_get (D := D) (ci := 12) (v := .ref m37) (C := RX12) (T := TX12) (N := 42) hx hb hts iT_X12 hown hK hP 0 rfl rfl 37 (by decide) (hts _ tw_6_90) (fun _ h9 => h9) rfl dX12_packs_51 ?_
          refine lv_iload hx hb dX12_packs_54 (lv_at hl 4 rfl) ?_
          refine lv_dup2_11 hx hb dX12_packs_56 rfl rfl ?_
          refine va_iald hx hb hK hP 3 0 rfl rfl (z_in (by omega) (by omega)) dX12_packs_57 ?_
          refine lv_topi (fun x_12 ex_12 => ?_)
          obtain rfl : x_7 = x_12 := ex_7.trans ex_12.symm
          refine lv_aload_n hx hb dX12_packs_58 rfl (lv_at hl 0 rfl) ?_
          refine va_get (D := D) (ci := 12) (v := .ref m20) (C := RX12) (T := TX12) (N := 42) hx hb hts iT_X12 hown hK hP 0 rfl rfl 20 (by decide) (hts _ tw_6_73) (fun _ h9 => h9) rfl dX12_packs_59 ?_
          refine lv_iconst (v := 4) hx hb dX12_packs_62 (by decide) ?_
          refine lv_iload_n hx hb dX12_packs_63 rfl (lv_at hl 1 rfl) ?_
          refine lv_imul hx hb dX12_packs_64 ?_
          refine lv_topi (fun x_13 ex_13 => ?_)
          obtain rfl : x_13 = 20 := ex_13.trans (by decide)
          refine lv_iconst (v := 3) hx hb dX12_packs_65 (by decide) ?_
          refine lv_iadd hx hb dX12_packs_66 ?_
          refine lv_topi (fun x_14 ex_14 => ?_)
          obtain rfl : x_14 = 23 := ex_14.trans (by decide)
          refine va_iald hx hb hK hP 2 0 rfl rfl (z_in (by decide) (by decide)) dX12_packs_67 ?_
          refine lv_topi (fun x_15 ex_15 => ?_)
          obtain rfl : x_10 = x_15 := ex_10.trans ex_15.symm
          refine lv_isub hx hb dX12_packs_68 ?_
          refine lv_topi (fun x_16 ex_16 => ?_)
          have zrx_7 := z_rng x_7
          have zrx_10 := z_rng x_10
          refine va_iast hx hb hK hP hD hS 3 0 rfl rfl (z_in (by omega) (by omega)) dX12_packs_69 (fun H locs hP hD hS => ?_)
          obtain ⟨g_17, eg_17⟩ : ∃ z : Nat → Int32, upd f37 L15l4.toNatClampNeg x_16 = z := ⟨_, rfl⟩
          have hP : va_P D vwCl [(mo, .inr (12, [.int v0, .ref m1, .ref m2, .ref m3, .ref m4, .ref m5, .int v6, .int v7, .int v8, .int v9, .int v10, .long v11, .int v12, .int v13, .int v14, .int v15, .ref m16, .ref m17, .ref m18, .ref m19, .ref m20, .ref m21, .ref m22, .ref m23, .int v24, .ref m25, .ref m26, .ref m27, .ref m28, .ref m29, .int v30, .ref m31, .ref m32, .ref m33, .int v34, .int v35, .int v36, .ref m37, .ref m38, .ref m39, .ref m40, .long v41])), (m17, .inl (k 0, 30, .inl f17)), (m20, .inl (k 0, 120, .inl f20)), (m37, .inl (k 0, 6, .inl (upd f37 L15l4.toNatClampNeg x_16))), (m38, .inl (k 0, 6, .inl f38))] H := hP
          have hD : va_D A [(mo, .inr (12, [.int v0, .ref m1, .ref m2, .ref m3, .ref m4, .ref m5, .int v6, .int v7, .int v8, .int v9, .int v10, .long v11, .int v12, .int v13, .int v14, .int v15, .ref m16, .ref m17, .ref m18, .ref m19, .ref m20, .ref m21, .ref m22, .ref m23, .int v24, .ref m25, .ref m26, .ref m27, .ref m28, .ref m29, .int v30, .ref m31, .ref m32, .ref m33, .int v34, .int v35, .int v36, .ref m37, .ref m38, .ref m39, .ref m40, .long v41])), (m17, .inl (k 0, 30, .inl f17)), (m20, .inl (k 0, 120, .inl f20)), (m37, .inl (k 0, 6, .inl (upd f37 L15l4.toNatClampNeg x_16))), (m38, .inl (k 0, 6, .inl f38))] := hD
          rw [eg_17] at hP hD
          refine lv_aload_n hx hb dX12_packs_70 rfl (lv_at hl 0 rfl) ?_
          refine va_get (D := D) (ci := 12) (v := .ref m38) (C := RX12) (T := TX12) (N := 42) hx hb hts iT_X12 hown hK hP 0 rfl rfl 38 (by decide) (hts _ tw_6_91) (fun _ h9 => h9) rfl dX12_packs_71 ?_
          refine lv_iload_n hx hb dX12_packs_74 rfl (lv_at hl 1 rfl) ?_
          refine lv_iload hx hb dX12_packs_75 (lv_at hl 4 rfl) ?_
          refine va_iast hx hb hK hP hD hS 4 0 rfl rfl (z_in (by decide) (by decide)) dX12_packs_77 (fun H locs hP hD hS => ?_)
          obtain ⟨g_18, eg_18⟩ : ∃ z : Nat → Int32, upd f38 5 L15l4 = z := ⟨_, rfl⟩
          have hP : va_P D vwCl [(mo, .inr (12, [.int v0, .ref m1, .ref m2, .ref m3, .ref m4, .ref m5, .int v6, .int v7, .int v8, .int v9, .int v10, .long v11, .int v12, .int v13, .int v14, .int v15, .ref m16, .ref m17, .ref m18, .ref m19, .ref m20, .ref m21, .ref m22, .ref m23, .int v24, .ref m25, .ref m26, .ref m27, .ref m28, .ref m29, .int v30, .ref m31, .ref m32, .ref m33, .int v34, .int v35, .int v36, .ref m37, .ref m38, .ref m39, .ref m40, .long v41])), (m17, .inl (k 0, 30, .inl f17)), (m20, .inl (k 0, 120, .inl f20)), (m37, .inl (k 0, 6, .inl g_17)), (m38, .inl (k 0, 6, .inl (upd f38 5 L15l4)))] H := hP
          have hD : va_D A [(mo, .inr (12, [.int v0, .ref m1, .ref m2, .ref m3, .ref m4, .ref m5, .int v6, .int v7, .int v8, .int v9, .int v10, .long v11, .int v12, .int v13, .int v14, .int v15, .ref m16, .ref m17, .ref m18, .ref m19, .ref m20, .ref m21, .ref m22, .ref m23, .int v24, .ref m25, .ref m26, .ref m27, .ref m28, .ref m29, .int v30, .ref m31, .ref m32, .ref m33, .int v34, .int v35, .int v36, .ref m37, .ref m38, .ref m39, .ref m40, .long v41])), (m17, .inl (k 0, 30, .inl f17)), (m20, .inl (k 0, 120, .inl f20)), (m37, .inl (k 0, 6, .inl g_17)), (m38, .inl (k 0, 6, .inl (upd f38 5 L15l4)))] := hD
          rw [eg_18] at hP hD
          refine lv_aload_n hx hb dX12_packs_78 rfl (lv_at hl 0 rfl) ?_
          refine lv_iload_n hx hb dX12_packs_79 rfl (lv_at hl 1 rfl) ?_
          refine lv_iconst (v := 1) hx hb dX12_packs_80 (by decide) ?_
          refine lv_iadd hx hb dX12_packs_81 ?_
          refine lv_topi (fun x_19 ex_19 => ?_)
          obtain rfl : x_19 = 6 := ex_19.trans (by decide)
          refine lv_iload hx hb dX12_packs_82 (lv_at hl 4 rfl) ?_
          refine lv_iload_n hx hb dX12_packs_84 rfl (lv_at hl 2 rfl) ?_
          refine lv_icmp_ne (tgt := 94) hx hb dX12_packs_85 (by decide) (fun h_20 => ?_) (fun h_20 => ?_)
          · skip
            have zh_20 : ¬ L15l4.toInt = p1.toInt := z_ne h_20
            refine lv_iload_n hx hb dX12_packs_94 rfl (lv_at hl 2 rfl) ?_
            refine lv_iload_n hx hb dX12_packs_95 rfl (lv_at hl 3 rfl) ?_
            obtain ⟨hPc, hDc, hFc⟩ := sub3 hP hD hS hA (ws' := [(mo, .inr (12, [.int v0, .ref m1, .ref m2, .ref m3, .ref m4, .ref m5, .int v6, .int v7, .int v8, .int v9, .int v10, .long v11, .int v12, .int v13, .int v14, .int v15, .ref m16, .ref m17, .ref m18, .ref m19, .ref m20, .ref m21, .ref m22, .ref m23, .int v24, .ref m25, .ref m26, .ref m27, .ref m28, .ref m29, .int v30, .ref m31, .ref m32, .ref m33, .int v34, .int v35, .int v36, .ref m37, .ref m38, .ref m39, .ref m40, .long v41])), (m17, .inl (k 0, 30, .inl f17))]) [0, 1] (by decide +kernel) rfl
            refine va_calli (va_runV (C := RX12) (As := [.int 6, .int p1, .int p2]) (rest := []) ⟨hx, hb, hml, hown, hts⟩ (c_X12_packs_0 l D k mo p1 p2 v0 m1 m2 m3 m4 m5 v6 v7 v8 v9 v10 v11 v12 v13 v14 v15 m16 m17 m18 m19 m20 m21 m22 m23 v24 m25 m26 m27 m28 m29 v30 m31 m32 m33 v34 v35 v36 m37 m38 m39 m40 v41 f17 H.size (show 0 ≤ p1.toInt ∧ p1.toInt ≤ 6 from by omega) (show 0 ≤ p2.toInt ∧ p2.toInt ≤ 6 from by omega) (show 0 ≤ v6.toInt ∧ v6.toInt ≤ 1000 from by omega) (show 0 ≤ v24.toInt ∧ v24.toInt ≤ 1023 from by omega) hp_f17_0 hp_f17_1 hp_f17_2 hp_f17_3 hp_f17_4 hp_f17_5 (show 6 ≤ (f17 3).toInt from by rw [show f17 3 = x_1 from ex_1.symm]; omega)) (cwV 3 hts (gV tw_8_146 tw_8_148 tw_p_90 tw_1_13 tw_8_149) rfl rfl rfl hdV_X12_packs ⟨Nat.le_of_ble_eq_true rfl, Nat.le_of_ble_eq_true rfl⟩) (cz_V hK hPc hDc hN (ci := 12) (q0 := 0) rfl rfl [.int 6, .int p1, .int p2]) rfl rfl hl.1 rfl (lv_room (Nat.le_of_ble_eq_true rfl)) dX12_packs_96 ⟨Nat.le_of_ble_eq_true rfl, Nat.le_of_ble_eq_true rfl⟩) hS (fun q _ h => hFc q h) hFc (fun r_21 uZ tZ H1 locs ht hvm hw hB hz1 hk1 hS => ?_)
            obtain ⟨hP1, hK1, hD1⟩ := hB
            rw [ht] at hP1
            obtain ⟨hP, hD⟩ := va_join (wr := [(m20, .inl (k 0, 120, .inl f20)), (m37, .inl (k 0, 6, .inl g_17)), (m38, .inl (k 0, 6, .inl g_18))]) (w1 := [(mo, .inr (12, [.int v0, .ref m1, .ref m2, .ref m3, .ref m4, .ref m5, .int v6, .int v7, .int v8, .int v9, .int v10, .long v11, .int v12, .int v13, .int v14, .int v15, .ref m16, .ref m17, .ref m18, .ref m19, .ref m20, .ref m21, .ref m22, .ref m23, .int v24, .ref m25, .ref m26, .ref m27, .ref m28, .ref m29, .int v30, .ref m31, .ref m32, .ref m33, .int v34, .int v35, .int v36, .ref m37, .ref m38, .ref m39, .ref m40, .long v41])), (m17, .inl (k 0, 30, .inl f17))]) hP hD [0, 1] [2, 3, 4] rfl rfl (by decide +kernel) (by decide +kernel) hk1 hFc hP1 hD1
            clear hK1 hP1 hD1 hPc hDc hFc
            clear hk1 hz1 ht hvm
            have hP : va_P D vwCl [(m20, .inl (k 0, 120, .inl f20)), (m37, .inl (k 0, 6, .inl g_17)), (m38, .inl (k 0, 6, .inl g_18)), (mo, .inr (12, [.int v0, .ref m1, .ref m2, .ref m3, .ref m4, .ref m5, .int v6, .int v7, .int v8, .int v9, .int v10, .long v11, .int v12, .int v13, .int v14, .int v15, .ref m16, .ref m17, .ref m18, .ref m19, .ref m20, .ref m21, .ref m22, .ref m23, .int v24, .ref m25, .ref m26, .ref m27, .ref m28, .ref m29, .int v30, .ref m31, .ref m32, .ref m33, .int v34, .int v35, .int v36, .ref m37, .ref m38, .ref m39, .ref m40, .long v41])), (m17, .inl (k 0, 30, .inl f17))] H1 := hP
            have hD : va_D A [(m20, .inl (k 0, 120, .inl f20)), (m37, .inl (k 0, 6, .inl g_17)), (m38, .inl (k 0, 6, .inl g_18)), (mo, .inr (12, [.int v0, .ref m1, .ref m2, .ref m3, .ref m4, .ref m5, .int v6, .int v7, .int v8, .int v9, .int v10, .long v11, .int v12, .int v13, .int v14, .int v15, .ref m16, .ref m17, .ref m18, .ref m19, .ref m20, .ref m21, .ref m22, .ref m23, .int v24, .ref m25, .ref m26, .ref m27, .ref m28, .ref m29, .int v30, .ref m31, .ref m32, .ref m33, .int v34, .int v35, .int v36, .ref m37, .ref m38, .ref m39, .ref m40, .long v41])), (m17, .inl (k 0, 30, .inl f17))] := hD
            generalize H1 = H at hP hS ⊢
            have hw_22 : (1 ≤ r_21.toInt ∧ r_21.toInt ≤ 1) := hw
            have hw_23 := hw_22
            clear hw
            refine lv_if_eq (tgt := 104) hx hb dX12_packs_99 (by decide) (fun h_24 => ?_) (fun h_24 => ?_)
            · skip
              have zh_24 : r_21.toInt = 0 := z_eq h_24
              exact False.elim (by omega)
            · skip
              have zh_24 : ¬ r_21.toInt = 0 := z_ne h_24
              refine lv_iconst (v := 1) hx hb dX12_packs_102 (by decide) ?_
              obtain ⟨hP9, hD9⟩ := sub2 hP hD (ws' := [(mo, .inr (12, [.int v0, .ref m1, .ref m2, .ref m3, .ref m4, .ref m5, .int v6, .int v7, .int v8, .int v9, .int v10, .long v11, .int v12, .int v13, .int v14, .int v15, .ref m16, .ref m17, .ref m18, .ref m19, .ref m20, .ref m21, .ref m22, .ref m23, .int v24, .ref m25, .ref m26, .ref m27, .ref m28, .ref m29, .int v30, .ref m31, .ref m32, .ref m33, .int v34, .int v35, .int v36, .ref m37, .ref m38, .ref m39, .ref m40, .long v41])), (m17, .inl (k 0, 30, .inl f17)), (m20, .inl (k 0, 120, .inl f20)), (m37, .inl (k 0, 6, .inl g_17)), (m38, .inl (k 0, 6, .inl g_18))]) [3, 4, 0, 1, 2] (by decide +kernel) rfl
              exact W.zret (v := 1) hx hb hr (by decide) (fun tZ ht hW => ⟨⟨1, (g_17, g_18), rfl, (show 0 ≤ 1 ∧ 1 ≤ 1 from by omega), by rw [ht]; exact hP9, va_K.moved hW.alike hK, hD9⟩, hS.F ht⟩) hS.2.2 dX12_packs_103
          · skip
            have zh_20 : L15l4.toInt = p1.toInt := z_eq h_20
            refine lv_iload_n hx hb dX12_packs_88 rfl (lv_at hl 2 rfl) ?_
            refine lv_iconst (v := 1) hx hb dX12_packs_89 (by decide) ?_
            refine lv_iadd hx hb dX12_packs_90 ?_
            refine lv_topi (fun x_25 ex_25 => ?_)
            have zx_25 : x_25.toInt = p1.toInt + 1 := by rw [ex_25]; exact z_add rfl rfl (by omega) (by omega)
            refine lv_goto (tgt := 95) hx hb dX12_packs_91 (by decide) ?_
            refine lv_iload_n hx hb dX12_packs_95 rfl (lv_at hl 3 rfl) ?_
            obtain ⟨hPc, hDc, hFc⟩ := sub3 hP hD hS hA (ws' := [(mo, .inr (12, [.int v0, .ref m1, .ref m2, .ref m3, .ref m4, .ref m5, .int v6, .int v7, .int v8, .int v9, .int v10, .long v11, .int v12, .int v13, .int v14, .int v15, .ref m16, .ref m17, .ref m18, .ref m19, .ref m20, .ref m21, .ref m22, .ref m23, .int v24, .ref m25, .ref m26, .ref m27, .ref m28, .ref m29, .int v30, .ref m31, .ref m32, .ref m33, .int v34, .int v35, .int v36, .ref m37, .ref m38, .ref m39, .ref m40, .long v41])), (m17, .inl (k 0, 30, .inl f17))]) [0, 1] (by decide +kernel) rfl
            refine va_calli (va_runV (C := RX12) (As := [.int 6, .int x_25, .int p2]) (rest := []) ⟨hx, hb, hml, hown, hts⟩ (c_X12_packs_0 l D k mo x_25 p2 v0 m1 m2 m3 m4 m5 v6 v7 v8 v9 v10 v11 v12 v13 v14 v15 m16 m17 m18 m19 m20 m21 m22 m23 v24 m25 m26 m27 m28 m29 v30 m31 m32 m33 v34 v35 v36 m37 m38 m39 m40 v41 f17 H.size (show 0 ≤ x_25.toInt ∧ x_25.toInt ≤ 6 from by omega) (show 0 ≤ p2.toInt ∧ p2.toInt ≤ 6 from by omega) (show 0 ≤ v6.toInt ∧ v6.toInt ≤ 1000 from by omega) (show 0 ≤ v24.toInt ∧ v24.toInt ≤ 1023 from by omega) hp_f17_0 hp_f17_1 hp_f17_2 hp_f17_3 hp_f17_4 hp_f17_5 (show 6 ≤ (f17 3).toInt from by rw [show f17 3 = x_1 from ex_1.symm]; omega)) (cwV 3 hts (gV tw_8_146 tw_8_148 tw_p_90 tw_1_13 tw_8_149) rfl rfl rfl hdV_X12_packs ⟨Nat.le_of_ble_eq_true rfl, Nat.le_of_ble_eq_true rfl⟩) (cz_V hK hPc hDc hN (ci := 12) (q0 := 0) rfl rfl [.int 6, .int x_25, .int p2]) rfl rfl hl.1 rfl (lv_room (Nat.le_of_ble_eq_true rfl)) dX12_packs_96 ⟨Nat.le_of_ble_eq_true rfl, Nat.le_of_ble_eq_true rfl⟩) hS (fun q _ h => hFc q h) hFc (fun r_26 uZ tZ H1 locs ht hvm hw hB hz1 hk1 hS => ?_)
            obtain ⟨hP1, hK1, hD1⟩ := hB
            rw [ht] at hP1
            obtain ⟨hP, hD⟩ := va_join (wr := [(m20, .inl (k 0, 120, .inl f20)), (m37, .inl (k 0, 6, .inl g_17)), (m38, .inl (k 0, 6, .inl g_18))]) (w1 := [(mo, .inr (12, [.int v0, .ref m1, .ref m2, .ref m3, .ref m4, .ref m5, .int v6, .int v7, .int v8, .int v9, .int v10, .long v11, .int v12, .int v13, .int v14, .int v15, .ref m16, .ref m17, .ref m18, .ref m19, .ref m20, .ref m21, .ref m22, .ref m23, .int v24, .ref m25, .ref m26, .ref m27, .ref m28, .ref m29, .int v30, .ref m31, .ref m32, .ref m33, .int v34, .int v35, .int v36, .ref m37, .ref m38, .ref m39, .ref m40, .long v41])), (m17, .inl (k 0, 30, .inl f17))]) hP hD [0, 1] [2, 3, 4] rfl rfl (by decide +kernel) (by decide +kernel) hk1 hFc hP1 hD1
            clear hK1 hP1 hD1 hPc hDc hFc
            clear hk1 hz1 ht hvm
            have hP : va_P D vwCl [(m20, .inl (k 0, 120, .inl f20)), (m37, .inl (k 0, 6, .inl g_17)), (m38, .inl (k 0, 6, .inl g_18)), (mo, .inr (12, [.int v0, .ref m1, .ref m2, .ref m3, .ref m4, .ref m5, .int v6, .int v7, .int v8, .int v9, .int v10, .long v11, .int v12, .int v13, .int v14, .int v15, .ref m16, .ref m17, .ref m18, .ref m19, .ref m20, .ref m21, .ref m22, .ref m23, .int v24, .ref m25, .ref m26, .ref m27, .ref m28, .ref m29, .int v30, .ref m31, .ref m32, .ref m33, .int v34, .int v35, .int v36, .ref m37, .ref m38, .ref m39, .ref m40, .long v41])), (m17, .inl (k 0, 30, .inl f17))] H1 := hP
            have hD : va_D A [(m20, .inl (k 0, 120, .inl f20)), (m37, .inl (k 0, 6, .inl g_17)), (m38, .inl (k 0, 6, .inl g_18)), (mo, .inr (12, [.int v0, .ref m1, .ref m2, .ref m3, .ref m4, .ref m5, .int v6, .int v7, .int v8, .int v9, .int v10, .long v11, .int v12, .int v13, .int v14, .int v15, .ref m16, .ref m17, .ref m18, .ref m19, .ref m20, .ref m21, .ref m22, .ref m23, .int v24, .ref m25, .ref m26, .ref m27, .ref m28, .ref m29, .int v30, .ref m31, .ref m32, .ref m33, .int v34, .int v35, .int v36, .ref m37, .ref m38, .ref m39, .ref m40, .long v41])), (m17, .inl (k 0, 30, .inl f17))] := hD
            generalize H1 = H at hP hS ⊢
            have hw_27 : (1 ≤ r_26.toInt ∧ r_26.toInt ≤ 1) := hw
            have hw_28 := hw_27
            clear hw
            refine lv_if_eq (tgt := 104) hx hb dX12_packs_99 (by decide) (fun h_29 => ?_) (fun h_29 => ?_)
            · skip
              have zh_29 : r_26.toInt = 0 := z_eq h_29
              exact False.elim (by omega)
            · skip
              have zh_29 : ¬ r_26.toInt = 0 := z_ne h_29
              refine lv_iconst (v := 1) hx hb dX12_packs_102 (by decide) ?_
              obtain ⟨hP9, hD9⟩ := sub2 hP hD (ws' := [(mo, .inr (12, [.int v0, .ref m1, .ref m2, .ref m3, .ref m4, .ref m5, .int v6, .int v7, .int v8, .int v9, .int v10, .long v11, .int v12, .int v13, .int v14, .int v15, .ref m16, .ref m17, .ref m18, .ref m19, .ref m20, .ref m21, .ref m22, .ref m23, .int v24, .ref m25, .ref m26, .ref m27, .ref m28, .ref m29, .int v30, .ref m31, .ref m32, .ref m33, .int v34, .int v35, .int v36, .ref m37, .ref m38, .ref m39, .ref m40, .long v41])), (m17, .inl (k 0, 30, .inl f17)), (m20, .inl (k 0, 120, .inl f20)), (m37, .inl (k 0, 6, .inl g_17)), (m38, .inl (k 0, 6, .inl g_18))]) [3, 4, 0, 1, 2] (by decide +kernel) rfl
              exact W.zret (v := 1) hx hb hr (by decide) (fun tZ ht hW => ⟨⟨1, (g_17, g_18), rfl, (show 0 ≤ 1 ∧ 1 ≤ 1 from by omega), by rw [ht]; exact hP9, va_K.moved hW.alike hK, hD9⟩, hS.F ht⟩) hS.2.2 dX12_packs_103
        · skip
          have zh_11 : x_7.toInt < x_10.toInt := z_nle h_11
          refine lv_goto (tgt := 124) hx hb dX12_packs_47 (by decide) ?_
          obtain ⟨x_30, ex_30⟩ : ∃ y : Int32, y = L15l4 + 1 := ⟨_, rfl⟩
          have zx_30 : x_30.toInt = L15l4.toInt + 1 := by rw [ex_30]; exact z_add rfl rfl (by omega) (by omega)
          refine lv_iinc (v := x_30) (lv' := [(4, .int x_30), (0, .ref mo), (1, .int 5), (2, .int p1), (3, .int p2)]) hx hb dX12_packs_124 hl (k := 4) rfl (by rw [ex_30]; rfl) (by decide) rfl (fun ls hl => ?_)
          refine lv_goto (tgt := 15) hx hb dX12_packs_127 (by decide) ?_
          exact ih_3 _ _ _ _ (by omega) ⟨x_30, rfl, (show 0 ≤ x_30.toInt ∧ x_30.toInt ≤ 6 from by omega), hP.sub (ws' := [(mo, .inr (12, [.int v0, .ref m1, .ref m2, .ref m3, .ref m4, .ref m5, .int v6, .int v7, .int v8, .int v9, .int v10, .long v11, .int v12, .int v13, .int v14, .int v15, .ref m16, .ref m17, .ref m18, .ref m19, .ref m20, .ref m21, .ref m22, .ref m23, .int v24, .ref m25, .ref m26, .ref m27, .ref m28, .ref m29, .int v30, .ref m31, .ref m32, .ref m33, .int v34, .int v35, .int v36, .ref m37, .ref m38, .ref m39, .ref m40, .long v41])), (m17, .inl (k 0, 30, .inl f17)), (m20, .inl (k 0, 120, .inl f20)), (m37, .inl (k 0, 6, .inl f37)), (m38, .inl (k 0, 6, .inl f38))]) [0, 1, 2, 3, 4] rfl, hD.sub (ws' := [(mo, .inr (12, [.int v0, .ref m1, .ref m2, .ref m3, .ref m4, .ref m5, .int v6, .int v7, .int v8, .int v9, .int v10, .long v11, .int v12, .int v13, .int v14, .int v15, .ref m16, .ref m17, .ref m18, .ref m19, .ref m20, .ref m21, .ref m22, .ref m23, .int v24, .ref m25, .ref m26, .ref m27, .ref m28, .ref m29, .int v30, .ref m31, .ref m32, .ref m33, .int v34, .int v35, .int v36, .ref m37, .ref m38, .ref m39, .ref m40, .long v41])), (m17, .inl (k 0, 30, .inl f17)), (m20, .inl (k 0, 120, .inl f20)), (m37, .inl (k 0, 6, .inl f37)), (m38, .inl (k 0, 6, .inl f38))]) [0, 1, 2, 3, 4] (by decide +kernel) rfl, hS, lv_sub hl [1, 2, 3, 4, 0] rfl⟩
  · skip
    have zh_2 : 5 = x_1.toInt := z_eq h_2
    refine lv_iconst (v := 1) hx hb dX12_packs_10 (by decide) ?_
    obtain ⟨hP9, hD9⟩ := sub2 hP hD (ws' := [(mo, .inr (12, [.int v0, .ref m1, .ref m2, .ref m3, .ref m4, .ref m5, .int v6, .int v7, .int v8, .int v9, .int v10, .long v11, .int v12, .int v13, .int v14, .int v15, .ref m16, .ref m17, .ref m18, .ref m19, .ref m20, .ref m21, .ref m22, .ref m23, .int v24, .ref m25, .ref m26, .ref m27, .ref m28, .ref m29, .int v30, .ref m31, .ref m32, .ref m33, .int v34, .int v35, .int v36, .ref m37, .ref m38, .ref m39, .ref m40, .long v41])), (m17, .inl (k 0, 30, .inl f17)), (m20, .inl (k 0, 120, .inl f20)), (m37, .inl (k 0, 6, .inl f37)), (m38, .inl (k 0, 6, .inl f38))]) [0, 1, 2, 3, 4] (by decide +kernel) rfl
    exact W.zret (v := 1) hx hb hr (by decide) (fun tZ ht hW => ⟨⟨1, (f37, f38), rfl, (show 0 ≤ 1 ∧ 1 ≤ 1 from by omega), by rw [ht]; exact hP9, va_K.moved hW.alike hK, hD9⟩, hS.F ht⟩) hS.2.2 dX12_packs_11
set_option maxHeartbeats 4000000 in
set_option maxRecDepth 100000 in
theorem c_X12_packs_2 (l : Launch) (D : va_G) (k : Nat → ClassId) (mo : Nat) (p1 : Int32) (p2 : Int32) (v0 : Int32) (m1 : Nat) (m2 : Nat) (m3 : Nat) (m4 : Nat) (m5 : Nat) (v6 : Int32) (v7 : Int32) (v8 : Int32) (v9 : Int32) (v10 : Int32) (v11 : Int64) (v12 : Int32) (v13 : Int32) (v14 : Int32) (v15 : Int32) (m16 : Nat) (m17 : Nat) (m18 : Nat) (m19 : Nat) (m20 : Nat) (m21 : Nat) (m22 : Nat) (m23 : Nat) (v24 : Int32) (m25 : Nat) (m26 : Nat) (m27 : Nat) (m28 : Nat) (m29 : Nat) (v30 : Int32) (m31 : Nat) (m32 : Nat) (m33 : Nat) (v34 : Int32) (v35 : Int32) (v36 : Int32) (m37 : Nat) (m38 : Nat) (m39 : Nat) (m40 : Nat) (v41 : Int64) (f17 : Nat → Int32) (f20 : Nat → Int32) (f37 : Nat → Int32) (f38 : Nat → Int32) (sz : Nat) (h_p1 : 0 ≤ p1.toInt ∧ p1.toInt ≤ 4) (h_p2 : 0 ≤ p2.toInt ∧ p2.toInt ≤ 6) (h_v6 : 0 ≤ v6.toInt ∧ v6.toInt ≤ 1000) (h_v24 : 0 ≤ v24.toInt ∧ v24.toInt ≤ 1023) (hp_f17_0 : PR 30 6 0 0 8 f17) (hp_f17_1 : PR 30 6 1 0 10 f17) (hp_f17_2 : PR 30 6 2 0 4 f17) (hp_f17_3 : PR 30 6 3 0 6 f17) (hp_f17_4 : PR 30 6 4 0 2 f17) (hp_f17_5 : PR 30 6 5 0 40 f17) (hp_f20_0 : PR 120 4 0 0 7 f20) (hh : 4 ≤ (f17 3).toInt) : Met l yX12_packs (ww yX12_packs cX12_packs 5 (some .boolean)) ({ frames := 2, cells := 0, slots := 0, locals := 48 }) (Pre0 D k [(mo, .inr (12, [.int v0, .ref m1, .ref m2, .ref m3, .ref m4, .ref m5, .int v6, .int v7, .int v8, .int v9, .int v10, .long v11, .int v12, .int v13, .int v14, .int v15, .ref m16, .ref m17, .ref m18, .ref m19, .ref m20, .ref m21, .ref m22, .ref m23, .int v24, .ref m25, .ref m26, .ref m27, .ref m28, .ref m29, .int v30, .ref m31, .ref m32, .ref m33, .int v34, .int v35, .int v36, .ref m37, .ref m38, .ref m39, .ref m40, .long v41])), (m17, .inl (k 0, 30, .inl f17)), (m20, .inl (k 0, 120, .inl f20)), (m37, .inl (k 0, 6, .inl f37)), (m38, .inl (k 0, 6, .inl f38))] sz [.ref mo, .int 4, .int p1, .int p2]) (va_Qi (fun (r : Int32) (u : (Nat → Int32) × (Nat → Int32)) => match u with | (f37z, f38z) => (0 ≤ r.toInt ∧ r.toInt ≤ 1)) (fun (u : (Nat → Int32) × (Nat → Int32)) tZ => match u with | (f37z, f38z) => Bw D k (va_A [(mo, .inr (12, [.int v0, .ref m1, .ref m2, .ref m3, .ref m4, .ref m5, .int v6, .int v7, .int v8, .int v9, .int v10, .long v11, .int v12, .int v13, .int v14, .int v15, .ref m16, .ref m17, .ref m18, .ref m19, .ref m20, .ref m21, .ref m22, .ref m23, .int v24, .ref m25, .ref m26, .ref m27, .ref m28, .ref m29, .int v30, .ref m31, .ref m32, .ref m33, .int v34, .int v35, .int v36, .ref m37, .ref m38, .ref m39, .ref m40, .long v41])), (m17, .inl (k 0, 30, .inl f17)), (m20, .inl (k 0, 120, .inl f20)), (m37, .inl (k 0, 6, .inl f37)), (m38, .inl (k 0, 6, .inl f38))] sz) [(mo, .inr (12, [.int v0, .ref m1, .ref m2, .ref m3, .ref m4, .ref m5, .int v6, .int v7, .int v8, .int v9, .int v10, .long v11, .int v12, .int v13, .int v14, .int v15, .ref m16, .ref m17, .ref m18, .ref m19, .ref m20, .ref m21, .ref m22, .ref m23, .int v24, .ref m25, .ref m26, .ref m27, .ref m28, .ref m29, .int v30, .ref m31, .ref m32, .ref m33, .int v34, .int v35, .int v36, .ref m37, .ref m38, .ref m39, .ref m40, .long v41])), (m17, .inl (k 0, 30, .inl f17)), (m20, .inl (k 0, 120, .inl f20)), (m37, .inl (k 0, 6, .inl f37z)), (m38, .inl (k 0, 6, .inl f38z))] tZ) (va_A [(mo, .inr (12, [.int v0, .ref m1, .ref m2, .ref m3, .ref m4, .ref m5, .int v6, .int v7, .int v8, .int v9, .int v10, .long v11, .int v12, .int v13, .int v14, .int v15, .ref m16, .ref m17, .ref m18, .ref m19, .ref m20, .ref m21, .ref m22, .ref m23, .int v24, .ref m25, .ref m26, .ref m27, .ref m28, .ref m29, .int v30, .ref m31, .ref m32, .ref m33, .int v34, .int v35, .int v36, .ref m37, .ref m38, .ref m39, .ref m40, .long v41])), (m17, .inl (k 0, 30, .inl f17)), (m20, .inl (k 0, 120, .inl f20)), (m37, .inl (k 0, 6, .inl f37)), (m38, .inl (k 0, 6, .inl f38))] sz)) 0 0 (va_A [(mo, .inr (12, [.int v0, .ref m1, .ref m2, .ref m3, .ref m4, .ref m5, .int v6, .int v7, .int v8, .int v9, .int v10, .long v11, .int v12, .int v13, .int v14, .int v15, .ref m16, .ref m17, .ref m18, .ref m19, .ref m20, .ref m21, .ref m22, .ref m23, .int v24, .ref m25, .ref m26, .ref m27, .ref m28, .ref m29, .int v30, .ref m31, .ref m32, .ref m33, .int v34, .int v35, .int v36, .ref m37, .ref m38, .ref m39, .ref m40, .long v41])), (m17, .inl (k 0, 30, .inl f17)), (m20, .inl (k 0, 120, .inl f20)), (m37, .inl (k 0, 6, .inl f37)), (m38, .inl (k 0, 6, .inl f38))] sz) := by
  refine Met.ofW (cc := cX12_packs) (maxL := 5) (ret := (some .boolean)) (by decide +kernel) rfl ?_
  intro p e s m args below meth c s₁ B hml hv
  obtain ⟨rfl, hsz, hP, hK, hD0, hN⟩ := hv
  have hx := B.exec
  have hb := B.bytes
  have hr := B.returns
  have hts : ∀ w ∈ TT, w.before _ s = true := fun w h => atoms_spec (ws := ww yX12_packs cX12_packs 5 (some .boolean)) B.pre w (List.mem_cons_of_mem _ h)
  have hown : s.vm.findClass RX12 = some m.cls := findClass_of_methodNamed B.named
  have hlocks := B.notSynchronized
  subst hsz
  have hD := hD0.self (sz := s.heap.size)
  generalize hAe : va_A [(mo, .inr (12, [.int v0, .ref m1, .ref m2, .ref m3, .ref m4, .ref m5, .int v6, .int v7, .int v8, .int v9, .int v10, .long v11, .int v12, .int v13, .int v14, .int v15, .ref m16, .ref m17, .ref m18, .ref m19, .ref m20, .ref m21, .ref m22, .ref m23, .int v24, .ref m25, .ref m26, .ref m27, .ref m28, .ref m29, .int v30, .ref m31, .ref m32, .ref m33, .int v34, .int v35, .int v36, .ref m37, .ref m38, .ref m39, .ref m40, .long v41])), (m17, .inl (k 0, 30, .inl f17)), (m20, .inl (k 0, 120, .inl f20)), (m37, .inl (k 0, 6, .inl f37)), (m38, .inl (k 0, 6, .inl f38))] s.heap.size = A at hD ⊢
  have hA : ∀ q : Nat, s.heap.size ≤ q → A q := fun q h => by rw [← hAe]; exact Or.inr h
  have hS : va_S A s.heap s.heap [] := va_S.rf
  have hl := lv_entry ([.ref mo, .int 4, .int p1, .int p2]) (n := 5) (Nat.le_of_ble_eq_true rfl)
  rw [lg_entry_eq]
  generalize (lg_sl ([.ref mo, .int 4, .int p1, .int p2]) ++ List.replicate (5 - (lg_sl ([.ref mo, .int 4, .int p1, .int p2])).length) Slot.unset).toArray = ls at hl ⊢
  have hl : lv_has ls 5 [(0, .ref mo), (1, .int 4), (2, .int p1), (3, .int p2)] := hl
  refine lv_iload_n hx hb dX12_packs_0 rfl (lv_at hl 1 rfl) ?_
  refine lv_aload_n hx hb dX12_packs_1 rfl (lv_at hl 0 rfl) ?_
  refine va_get (D := D) (ci := 12) (v := .ref m17) (C := RX12) (T := TX12) (N := 42) hx hb hts iT_X12 hown hK hP 0 rfl rfl 17 (by decide) (hts _ tw_6_70) (fun _ h9 => h9) rfl dX12_packs_2 ?_
  refine lv_iconst (v := 3) hx hb dX12_packs_5 (by decide) ?_
  refine va_iald hx hb hK hP 1 0 rfl rfl (z_in (by decide) (by decide)) dX12_packs_6 ?_
  refine lv_topi (fun x_1 ex_1 => ?_)
  have zx_1r3 : 0 ≤ x_1.toInt ∧ x_1.toInt ≤ 6 := by rw [ex_1]; exact PR.ld hp_f17_3 (by decide) (by decide) (by decide)
  have zpx_1 : 4 ≤ x_1.toInt := by rw [ex_1]; exact hh
  refine lv_icmp_ne (tgt := 12) hx hb dX12_packs_7 (by decide) (fun h_2 => ?_) (fun h_2 => ?_)
  · skip
    have zh_2 : ¬ 4 = x_1.toInt := z_ne h_2
    refine lv_iconst (v := 0) hx hb dX12_packs_12 (by decide) ?_
    refine lv_istore (lv' := [(4, .int 0), (0, .ref mo), (1, .int 4), (2, .int p1), (3, .int p2)]) hx hb dX12_packs_13 hl (by decide) rfl (fun ls hl => ?_)
    refine loop_r (Wg := fun H locs ls => W p l e _ s m _ below meth c H locs _ _ _ (F0 m 15 ls [])) (fun n9 H locs ls => ∃ (L15l4 : Int32) (L15a3 : Nat → Int32) (L15a4 : Nat → Int32), n9 = (5 - L15l4.toInt).toNat ∧ (0 ≤ L15l4.toInt ∧ L15l4.toInt ≤ 5) ∧ va_P D vwCl [(mo, .inr (12, [.int v0, .ref m1, .ref m2, .ref m3, .ref m4, .ref m5, .int v6, .int v7, .int v8, .int v9, .int v10, .long v11, .int v12, .int v13, .int v14, .int v15, .ref m16, .ref m17, .ref m18, .ref m19, .ref m20, .ref m21, .ref m22, .ref m23, .int v24, .ref m25, .ref m26, .ref m27, .ref m28, .ref m29, .int v30, .ref m31, .ref m32, .ref m33, .int v34, .int v35, .int v36, .ref m37, .ref m38, .ref m39, .ref m40, .long v41])), (m17, .inl (k 0, 30, .inl f17)), (m20, .inl (k 0, 120, .inl f20)), (m37, .inl (k 0, 6, .inl L15a3)), (m38, .inl (k 0, 6, .inl L15a4))] H ∧ va_D A [(mo, .inr (12, [.int v0, .ref m1, .ref m2, .ref m3, .ref m4, .ref m5, .int v6, .int v7, .int v8, .int v9, .int v10, .long v11, .int v12, .int v13, .int v14, .int v15, .ref m16, .ref m17, .ref m18, .ref m19, .ref m20, .ref m21, .ref m22, .ref m23, .int v24, .ref m25, .ref m26, .ref m27, .ref m28, .ref m29, .int v30, .ref m31, .ref m32, .ref m33, .int v34, .int v35, .int v36, .ref m37, .ref m38, .ref m39, .ref m40, .long v41])), (m17, .inl (k 0, 30, .inl f17)), (m20, .inl (k 0, 120, .inl f20)), (m37, .inl (k 0, 6, .inl L15a3)), (m38, .inl (k 0, 6, .inl L15a4))] ∧ va_S A s.heap H locs ∧ lv_has ls 5 [(0, .ref mo), (1, .int 4), (2, .int p1), (3, .int p2), (4, .int L15l4)]) (fun n9 H locs ls hI ih_3 => ?_) _ _ _ _ ⟨0, f37, f38, rfl, (show 0 ≤ 0 ∧ 0 ≤ 5 from by omega), hP.sub (ws' := [(mo, .inr (12, [.int v0, .ref m1, .ref m2, .ref m3, .ref m4, .ref m5, .int v6, .int v7, .int v8, .int v9, .int v10, .long v11, .int v12, .int v13, .int v14, .int v15, .ref m16, .ref m17, .ref m18, .ref m19, .ref m20, .ref m21, .ref m22, .ref m23, .int v24, .ref m25, .ref m26, .ref m27, .ref m28, .ref m29, .int v30, .ref m31, .ref m32, .ref m33, .int v34, .int v35, .int v36, .ref m37, .ref m38, .ref m39, .ref m40, .long v41])), (m17, .inl (k 0, 30, .inl f17)), (m20, .inl (k 0, 120, .inl f20)), (m37, .inl (k 0, 6, .inl f37)), (m38, .inl (k 0, 6, .inl f38))]) [0, 1, 2, 3, 4] rfl, hD.sub (ws' := [(mo, .inr (12, [.int v0, .ref m1, .ref m2, .ref m3, .ref m4, .ref m5, .int v6, .int v7, .int v8, .int v9, .int v10, .long v11, .int v12, .int v13, .int v14, .int v15, .ref m16, .ref m17, .ref m18, .ref m19, .ref m20, .ref m21, .ref m22, .ref m23, .int v24, .ref m25, .ref m26, .ref m27, .ref m28, .ref m29, .int v30, .ref m31, .ref m32, .ref m33, .int v34, .int v35, .int v36, .ref m37, .ref m38, .ref m39, .ref m40, .long v41])), (m17, .inl (k 0, 30, .inl f17)), (m20, .inl (k 0, 120, .inl f20)), (m37, .inl (k 0, 6, .inl f37)), (m38, .inl (k 0, 6, .inl f38))]) [0, 1, 2, 3, 4] (by decide +kernel) rfl, hS, lv_sub hl [1, 2, 3, 4, 0] rfl⟩
    clear hP hD hS hl
    obtain ⟨L15l4, L15a3, L15a4, en_4, zL15l4, hP, hD, hS, hl⟩ := hI
    refine lv_iload hx hb dX12_packs_15 (lv_at hl 4 rfl) ?_
    refine lv_iload_n hx hb dX12_packs_17 rfl (lv_at hl 2 rfl) ?_
    refine lv_icmp_gt (tgt := 130) hx hb dX12_packs_18 (by decide) (fun h_5 => ?_) (fun h_5 => ?_)
    · skip
      have zh_5 : p1.toInt < L15l4.toInt := z_lt h_5
      refine lv_iconst (v := 0) hx hb dX12_packs_130 (by decide) ?_
      obtain ⟨hP9, hD9⟩ := sub2 hP hD (ws' := [(mo, .inr (12, [.int v0, .ref m1, .ref m2, .ref m3, .ref m4, .ref m5, .int v6, .int v7, .int v8, .int v9, .int v10, .long v11, .int v12, .int v13, .int v14, .int v15, .ref m16, .ref m17, .ref m18, .ref m19, .ref m20, .ref m21, .ref m22, .ref m23, .int v24, .ref m25, .ref m26, .ref m27, .ref m28, .ref m29, .int v30, .ref m31, .ref m32, .ref m33, .int v34, .int v35, .int v36, .ref m37, .ref m38, .ref m39, .ref m40, .long v41])), (m17, .inl (k 0, 30, .inl f17)), (m20, .inl (k 0, 120, .inl f20)), (m37, .inl (k 0, 6, .inl L15a3)), (m38, .inl (k 0, 6, .inl L15a4))]) [0, 1, 2, 3, 4] (by decide +kernel) rfl
      exact W.zret (v := 0) hx hb hr (by decide) (fun tZ ht hW => ⟨⟨0, (L15a3, L15a4), rfl, (show 0 ≤ 0 ∧ 0 ≤ 1 from by omega), by rw [ht]; exact hP9, va_K.moved hW.alike hK, hD9⟩, hS.F ht⟩) hS.2.2 dX12_packs_131
    · skip
      have zh_5 : L15l4.toInt ≤ p1.toInt := z_nlt h_5
      refine lv_iload hx hb dX12_packs_21 (lv_at hl 4 rfl) ?_
      refine lv_iload_n hx hb dX12_packs_23 rfl (lv_at hl 3 rfl) ?_
      refine lv_icmp_ge (tgt := 130) hx hb dX12_packs_24 (by decide) (fun h_6 => ?_) (fun h_6 => ?_)
      · skip
        have zh_6 : p2.toInt ≤ L15l4.toInt := z_le h_6
        refine lv_iconst (v := 0) hx hb dX12_packs_130 (by decide) ?_
        obtain ⟨hP9, hD9⟩ := sub2 hP hD (ws' := [(mo, .inr (12, [.int v0, .ref m1, .ref m2, .ref m3, .ref m4, .ref m5, .int v6, .int v7, .int v8, .int v9, .int v10, .long v11, .int v12, .int v13, .int v14, .int v15, .ref m16, .ref m17, .ref m18, .ref m19, .ref m20, .ref m21, .ref m22, .ref m23, .int v24, .ref m25, .ref m26, .ref m27, .ref m28, .ref m29, .int v30, .ref m31, .ref m32, .ref m33, .int v34, .int v35, .int v36, .ref m37, .ref m38, .ref m39, .ref m40, .long v41])), (m17, .inl (k 0, 30, .inl f17)), (m20, .inl (k 0, 120, .inl f20)), (m37, .inl (k 0, 6, .inl L15a3)), (m38, .inl (k 0, 6, .inl L15a4))]) [0, 1, 2, 3, 4] (by decide +kernel) rfl
        exact W.zret (v := 0) hx hb hr (by decide) (fun tZ ht hW => ⟨⟨0, (L15a3, L15a4), rfl, (show 0 ≤ 0 ∧ 0 ≤ 1 from by omega), by rw [ht]; exact hP9, va_K.moved hW.alike hK, hD9⟩, hS.F ht⟩) hS.2.2 dX12_packs_131
      · skip
        have zh_6 : L15l4.toInt < p2.toInt := z_nle h_6
        refine lv_aload_n hx hb dX12_packs_27 rfl (lv_at hl 0 rfl) ?_
        refine va_get (D := D) (ci := 12) (v := .ref m37) (C := RX12) (T := TX12) (N := 42) hx hb hts iT_X12 hown hK hP 0 rfl rfl 37 (by decide) (hts _ tw_6_90) (fun _ h9 => h9) rfl dX12_packs_28 ?_
        refine lv_iload hx hb dX12_packs_31 (lv_at hl 4 rfl) ?_
        refine va_iald hx hb hK hP 3 0 rfl rfl (z_in (by omega) (by omega)) dX12_packs_33 ?_
        refine lv_topi (fun x_7 ex_7 => ?_)
        refine lv_aload_n hx hb dX12_packs_34 rfl (lv_at hl 0 rfl) ?_
        refine va_get (D := D) (ci := 12) (v := .ref m20) (C := RX12) (T := TX12) (N := 42) hx hb hts iT_X12 hown hK hP 0 rfl rfl 20 (by decide) (hts _ tw_6_73) (fun _ h9 => h9) rfl dX12_packs_35 ?_
        refine lv_iconst (v := 4) hx hb dX12_packs_38 (by decide) ?_
        refine lv_iload_n hx hb dX12_packs_39 rfl (lv_at hl 1 rfl) ?_
        refine lv_imul hx hb dX12_packs_40 ?_
        refine lv_topi (fun x_8 ex_8 => ?_)
        obtain rfl : x_8 = 16 := ex_8.trans (by decide)
        refine lv_iconst (v := 3) hx hb dX12_packs_41 (by decide) ?_
        refine lv_iadd hx hb dX12_packs_42 ?_
        refine lv_topi (fun x_9 ex_9 => ?_)
        obtain rfl : x_9 = 19 := ex_9.trans (by decide)
        refine va_iald hx hb hK hP 2 0 rfl rfl (z_in (by decide) (by decide)) dX12_packs_43 ?_
        refine lv_topi (fun x_10 ex_10 => ?_)
        refine lv_icmp_ge (tgt := 50) hx hb dX12_packs_44 (by decide) (fun h_11 => ?_) (fun h_11 => ?_)
        · skip
          have zh_11 : x_10.toInt ≤ x_7.toInt := z_le h_11
          refine lv_aload_n hx hb dX12_packs_50 rfl (lv_at hl 0 rfl) ?_
          refine va_get (D := D) (ci := 12) (v := .ref m37) (C := RX12) (T := TX12) (N := 42) hx hb hts iT_X12 hown hK hP 0 rfl rfl 37 (by decide) (hts _ tw_6_90) (fun _ h9 => h9) rfl dX12_packs_51 ?_
          refine lv_iload hx hb dX12_packs_54 (lv_at hl 4 rfl) ?_
          refine lv_dup2_11 hx hb dX12_packs_56 rfl rfl ?_
          refine va_iald hx hb hK hP 3 0 rfl rfl (z_in (by omega) (by omega)) dX12_packs_57 ?_
          refine lv_topi (fun x_12 ex_12 => ?_)
          obtain rfl : x_7 = x_12 := ex_7.trans ex_12.symm
          refine lv_aload_n hx hb dX12_packs_58 rfl (lv_at hl 0 rfl) ?_
          refine va_get (D := D) (ci := 12) (v := .ref m20) (C := RX12) (T := TX12) (N := 42) hx hb hts iT_X12 hown hK hP 0 rfl rfl 20 (by decide) (hts _ tw_6_73) (fun _ h9 => h9) rfl dX12_packs_59 ?_
          refine lv_iconst (v := 4) hx hb dX12_packs_62 (by decide) ?_
          refine lv_iload_n hx hb dX12_packs_63 rfl (lv_at hl 1 rfl) ?_
          refine lv_imul hx hb dX12_packs_64 ?_
          refine lv_topi (fun x_13 ex_13 => ?_)
          obtain rfl : x_13 = 16 := ex_13.trans (by decide)
          refine lv_iconst (v := 3) hx hb dX12_packs_65 (by decide) ?_
          refine lv_iadd hx hb dX12_packs_66 ?_
          refine lv_topi (fun x_14 ex_14 => ?_)
          obtain rfl : x_14 = 19 := ex_14.trans (by decide)
          refine va_iald hx hb hK hP 2 0 rfl rfl (z_in (by decide) (by decide)) dX12_packs_67 ?_
          refine lv_topi (fun x_15 ex_15 => ?_)
          obtain rfl : x_10 = x_15 := ex_10.trans ex_15.symm
          refine lv_isub hx hb dX12_packs_68 ?_
          refine lv_topi (fun x_16 ex_16 => ?_)
          have zrx_7 := z_rng x_7
          have zrx_10 := z_rng x_10
          refine va_iast hx hb hK hP hD hS 3 0 rfl rfl (z_in (by omega) (by omega)) dX12_packs_69 (fun H locs hP hD hS => ?_)
          obtain ⟨g_17, eg_17⟩ : ∃ z : Nat → Int32, upd L15a3 L15l4.toNatClampNeg x_16 = z := ⟨_, rfl⟩
          have hP : va_P D vwCl [(mo, .inr (12, [.int v0, .ref m1, .ref m2, .ref m3, .ref m4, .ref m5, .int v6, .int v7, .int v8, .int v9, .int v10, .long v11, .int v12, .int v13, .int v14, .int v15, .ref m16, .ref m17, .ref m18, .ref m19, .ref m20, .ref m21, .ref m22, .ref m23, .int v24, .ref m25, .ref m26, .ref m27, .ref m28, .ref m29, .int v30, .ref m31, .ref m32, .ref m33, .int v34, .int v35, .int v36, .ref m37, .ref m38, .ref m39, .ref m40, .long v41])), (m17, .inl (k 0, 30, .inl f17)), (m20, .inl (k 0, 120, .inl f20)), (m37, .inl (k 0, 6, .inl (upd L15a3 L15l4.toNatClampNeg x_16))), (m38, .inl (k 0, 6, .inl L15a4))] H := hP
          have hD : va_D A [(mo, .inr (12, [.int v0, .ref m1, .ref m2, .ref m3, .ref m4, .ref m5, .int v6, .int v7, .int v8, .int v9, .int v10, .long v11, .int v12, .int v13, .int v14, .int v15, .ref m16, .ref m17, .ref m18, .ref m19, .ref m20, .ref m21, .ref m22, .ref m23, .int v24, .ref m25, .ref m26, .ref m27, .ref m28, .ref m29, .int v30, .ref m31, .ref m32, .ref m33, .int v34, .int v35, .int v36, .ref m37, .ref m38, .ref m39, .ref m40, .long v41])), (m17, .inl (k 0, 30, .inl f17)), (m20, .inl (k 0, 120, .inl f20)), (m37, .inl (k 0, 6, .inl (upd L15a3 L15l4.toNatClampNeg x_16))), (m38, .inl (k 0, 6, .inl L15a4))] := hD
          rw [eg_17] at hP hD
          refine lv_aload_n hx hb dX12_packs_70 rfl (lv_at hl 0 rfl) ?_
          refine va_get (D := D) (ci := 12) (v := .ref m38) (C := RX12) (T := TX12) (N := 42) hx hb hts iT_X12 hown hK hP 0 rfl rfl 38 (by decide) (hts _ tw_6_91) (fun _ h9 => h9) rfl dX12_packs_71 ?_
          refine lv_iload_n hx hb dX12_packs_74 rfl (lv_at hl 1 rfl) ?_
          refine lv_iload hx hb dX12_packs_75 (lv_at hl 4 rfl) ?_
          refine va_iast hx hb hK hP hD hS 4 0 rfl rfl (z_in (by decide) (by decide)) dX12_packs_77 (fun H locs hP hD hS => ?_)
          obtain ⟨g_18, eg_18⟩ : ∃ z : Nat → Int32, upd L15a4 4 L15l4 = z := ⟨_, rfl⟩
          have hP : va_P D vwCl [(mo, .inr (12, [.int v0, .ref m1, .ref m2, .ref m3, .ref m4, .ref m5, .int v6, .int v7, .int v8, .int v9, .int v10, .long v11, .int v12, .int v13, .int v14, .int v15, .ref m16, .ref m17, .ref m18, .ref m19, .ref m20, .ref m21, .ref m22, .ref m23, .int v24, .ref m25, .ref m26, .ref m27, .ref m28, .ref m29, .int v30, .ref m31, .ref m32, .ref m33, .int v34, .int v35, .int v36, .ref m37, .ref m38, .ref m39, .ref m40, .long v41])), (m17, .inl (k 0, 30, .inl f17)), (m20, .inl (k 0, 120, .inl f20)), (m37, .inl (k 0, 6, .inl g_17)), (m38, .inl (k 0, 6, .inl (upd L15a4 4 L15l4)))] H := hP
          have hD : va_D A [(mo, .inr (12, [.int v0, .ref m1, .ref m2, .ref m3, .ref m4, .ref m5, .int v6, .int v7, .int v8, .int v9, .int v10, .long v11, .int v12, .int v13, .int v14, .int v15, .ref m16, .ref m17, .ref m18, .ref m19, .ref m20, .ref m21, .ref m22, .ref m23, .int v24, .ref m25, .ref m26, .ref m27, .ref m28, .ref m29, .int v30, .ref m31, .ref m32, .ref m33, .int v34, .int v35, .int v36, .ref m37, .ref m38, .ref m39, .ref m40, .long v41])), (m17, .inl (k 0, 30, .inl f17)), (m20, .inl (k 0, 120, .inl f20)), (m37, .inl (k 0, 6, .inl g_17)), (m38, .inl (k 0, 6, .inl (upd L15a4 4 L15l4)))] := hD
          rw [eg_18] at hP hD
          refine lv_aload_n hx hb dX12_packs_78 rfl (lv_at hl 0 rfl) ?_
          refine lv_iload_n hx hb dX12_packs_79 rfl (lv_at hl 1 rfl) ?_
          refine lv_iconst (v := 1) hx hb dX12_packs_80 (by decide) ?_
          refine lv_iadd hx hb dX12_packs_81 ?_
          refine lv_topi (fun x_19 ex_19 => ?_)
          obtain rfl : x_19 = 5 := ex_19.trans (by decide)
          refine lv_iload hx hb dX12_packs_82 (lv_at hl 4 rfl) ?_
          refine lv_iload_n hx hb dX12_packs_84 rfl (lv_at hl 2 rfl) ?_
          refine lv_icmp_ne (tgt := 94) hx hb dX12_packs_85 (by decide) (fun h_20 => ?_) (fun h_20 => ?_)
          · skip
            have zh_20 : ¬ L15l4.toInt = p1.toInt := z_ne h_20
            refine lv_iload_n hx hb dX12_packs_94 rfl (lv_at hl 2 rfl) ?_
            refine lv_iload_n hx hb dX12_packs_95 rfl (lv_at hl 3 rfl) ?_
            obtain ⟨hPc, hDc, hFc⟩ := sub3 hP hD hS hA (ws' := [(mo, .inr (12, [.int v0, .ref m1, .ref m2, .ref m3, .ref m4, .ref m5, .int v6, .int v7, .int v8, .int v9, .int v10, .long v11, .int v12, .int v13, .int v14, .int v15, .ref m16, .ref m17, .ref m18, .ref m19, .ref m20, .ref m21, .ref m22, .ref m23, .int v24, .ref m25, .ref m26, .ref m27, .ref m28, .ref m29, .int v30, .ref m31, .ref m32, .ref m33, .int v34, .int v35, .int v36, .ref m37, .ref m38, .ref m39, .ref m40, .long v41])), (m17, .inl (k 0, 30, .inl f17)), (m20, .inl (k 0, 120, .inl f20)), (m37, .inl (k 0, 6, .inl g_17)), (m38, .inl (k 0, 6, .inl g_18))]) [0, 1, 2, 3, 4] (by decide +kernel) rfl
            refine va_calli (va_runV (C := RX12) (As := [.int 5, .int p1, .int p2]) (rest := []) ⟨hx, hb, hml, hown, hts⟩ (c_X12_packs_1 l D k mo p1 p2 v0 m1 m2 m3 m4 m5 v6 v7 v8 v9 v10 v11 v12 v13 v14 v15 m16 m17 m18 m19 m20 m21 m22 m23 v24 m25 m26 m27 m28 m29 v30 m31 m32 m33 v34 v35 v36 m37 m38 m39 m40 v41 f17 f20 g_17 g_18 H.size (show 0 ≤ p1.toInt ∧ p1.toInt ≤ 5 from by omega) (show 0 ≤ p2.toInt ∧ p2.toInt ≤ 6 from by omega) (show 0 ≤ v6.toInt ∧ v6.toInt ≤ 1000 from by omega) (show 0 ≤ v24.toInt ∧ v24.toInt ≤ 1023 from by omega) hp_f17_0 hp_f17_1 hp_f17_2 hp_f17_3 hp_f17_4 hp_f17_5 hp_f20_0 (show 5 ≤ (f17 3).toInt from by rw [show f17 3 = x_1 from ex_1.symm]; omega)) (cwV 3 hts (gV tw_8_146 tw_8_148 tw_p_90 tw_1_13 tw_8_149) rfl rfl rfl hdV_X12_packs ⟨Nat.le_of_ble_eq_true rfl, Nat.le_of_ble_eq_true rfl⟩) (cz_V hK hPc hDc hN (ci := 12) (q0 := 0) rfl rfl [.int 5, .int p1, .int p2]) rfl rfl hl.1 rfl (lv_room (Nat.le_of_ble_eq_true rfl)) dX12_packs_96 ⟨Nat.le_of_ble_eq_true rfl, Nat.le_of_ble_eq_true rfl⟩) hS (fun q _ h => hFc q h) hFc (fun r_21 uZ tZ H1 locs ht hvm hw hB hz1 hk1 hS => ?_)
            obtain ⟨o_22, o_23⟩ := uZ
            obtain ⟨hP1, hK1, hD1⟩ := hB
            rw [ht] at hP1
            obtain ⟨hP, hD⟩ := va_join (wr := []) (w1 := [(mo, .inr (12, [.int v0, .ref m1, .ref m2, .ref m3, .ref m4, .ref m5, .int v6, .int v7, .int v8, .int v9, .int v10, .long v11, .int v12, .int v13, .int v14, .int v15, .ref m16, .ref m17, .ref m18, .ref m19, .ref m20, .ref m21, .ref m22, .ref m23, .int v24, .ref m25, .ref m26, .ref m27, .ref m28, .ref m29, .int v30, .ref m31, .ref m32, .ref m33, .int v34, .int v35, .int v36, .ref m37, .ref m38, .ref m39, .ref m40, .long v41])), (m17, .inl (k 0, 30, .inl f17)), (m20, .inl (k 0, 120, .inl f20)), (m37, .inl (k 0, 6, .inl o_22)), (m38, .inl (k 0, 6, .inl o_23))]) hP hD [0, 1, 2, 3, 4] [] rfl rfl (by decide +kernel) (by decide +kernel) hk1 hFc hP1 hD1
            clear hK1 hP1 hD1 hPc hDc hFc
            clear hk1 hz1 ht hvm
            have hP : va_P D vwCl [(mo, .inr (12, [.int v0, .ref m1, .ref m2, .ref m3, .ref m4, .ref m5, .int v6, .int v7, .int v8, .int v9, .int v10, .long v11, .int v12, .int v13, .int v14, .int v15, .ref m16, .ref m17, .ref m18, .ref m19, .ref m20, .ref m21, .ref m22, .ref m23, .int v24, .ref m25, .ref m26, .ref m27, .ref m28, .ref m29, .int v30, .ref m31, .ref m32, .ref m33, .int v34, .int v35, .int v36, .ref m37, .ref m38, .ref m39, .ref m40, .long v41])), (m17, .inl (k 0, 30, .inl f17)), (m20, .inl (k 0, 120, .inl f20)), (m37, .inl (k 0, 6, .inl o_22)), (m38, .inl (k 0, 6, .inl o_23))] H1 := hP
            have hD : va_D A [(mo, .inr (12, [.int v0, .ref m1, .ref m2, .ref m3, .ref m4, .ref m5, .int v6, .int v7, .int v8, .int v9, .int v10, .long v11, .int v12, .int v13, .int v14, .int v15, .ref m16, .ref m17, .ref m18, .ref m19, .ref m20, .ref m21, .ref m22, .ref m23, .int v24, .ref m25, .ref m26, .ref m27, .ref m28, .ref m29, .int v30, .ref m31, .ref m32, .ref m33, .int v34, .int v35, .int v36, .ref m37, .ref m38, .ref m39, .ref m40, .long v41])), (m17, .inl (k 0, 30, .inl f17)), (m20, .inl (k 0, 120, .inl f20)), (m37, .inl (k 0, 6, .inl o_22)), (m38, .inl (k 0, 6, .inl o_23))] := hD
            generalize H1 = H at hP hS ⊢
            have hw_24 : (0 ≤ r_21.toInt ∧ r_21.toInt ≤ 1) := hw
            have hw_25 := hw_24
            clear hw
            refine lv_if_eq (tgt := 104) hx hb dX12_packs_99 (by decide) (fun h_26 => ?_) (fun h_26 => ?_)
            · skip
              have zh_26 : r_21.toInt = 0 := z_eq h_26
              refine lv_aload_n hx hb dX12_packs_104 rfl (lv_at hl 0 rfl) ?_
              refine va_get (D := D) (ci := 12) (v := .ref m37) (C := RX12) (T := TX12) (N := 42) hx hb hts iT_X12 hown hK hP 0 rfl rfl 37 (by decide) (hts _ tw_6_90) (fun _ h9 => h9) rfl dX12_packs_105 ?_
              refine lv_iload hx hb dX12_packs_108 (lv_at hl 4 rfl) ?_
              refine lv_dup2_11 hx hb dX12_packs_110 rfl rfl ?_
              refine va_iald hx hb hK hP 3 0 rfl rfl (z_in (by omega) (by omega)) dX12_packs_111 ?_
              refine lv_topi (fun x_27 ex_27 => ?_)
              refine lv_aload_n hx hb dX12_packs_112 rfl (lv_at hl 0 rfl) ?_
              refine va_get (D := D) (ci := 12) (v := .ref m20) (C := RX12) (T := TX12) (N := 42) hx hb hts iT_X12 hown hK hP 0 rfl rfl 20 (by decide) (hts _ tw_6_73) (fun _ h9 => h9) rfl dX12_packs_113 ?_
              refine lv_iconst (v := 4) hx hb dX12_packs_116 (by decide) ?_
              refine lv_iload_n hx hb dX12_packs_117 rfl (lv_at hl 1 rfl) ?_
              refine lv_imul hx hb dX12_packs_118 ?_
              refine lv_topi (fun x_28 ex_28 => ?_)
              obtain rfl : x_28 = 16 := ex_28.trans (by decide)
              refine lv_iconst (v := 3) hx hb dX12_packs_119 (by decide) ?_
              refine lv_iadd hx hb dX12_packs_120 ?_
              refine lv_topi (fun x_29 ex_29 => ?_)
              obtain rfl : x_29 = 19 := ex_29.trans (by decide)
              refine va_iald hx hb hK hP 2 0 rfl rfl (z_in (by decide) (by decide)) dX12_packs_121 ?_
              refine lv_topi (fun x_30 ex_30 => ?_)
              obtain rfl : x_10 = x_30 := ex_10.trans ex_30.symm
              refine lv_iadd hx hb dX12_packs_122 ?_
              refine lv_topi (fun x_31 ex_31 => ?_)
              have zrx_27 := z_rng x_27
              refine va_iast hx hb hK hP hD hS 3 0 rfl rfl (z_in (by omega) (by omega)) dX12_packs_123 (fun H locs hP hD hS => ?_)
              obtain ⟨g_32, eg_32⟩ : ∃ z : Nat → Int32, upd o_22 L15l4.toNatClampNeg x_31 = z := ⟨_, rfl⟩
              have hP : va_P D vwCl [(mo, .inr (12, [.int v0, .ref m1, .ref m2, .ref m3, .ref m4, .ref m5, .int v6, .int v7, .int v8, .int v9, .int v10, .long v11, .int v12, .int v13, .int v14, .int v15, .ref m16, .ref m17, .ref m18, .ref m19, .ref m20, .ref m21, .ref m22, .ref m23, .int v24, .ref m25, .ref m26, .ref m27, .ref m28, .ref m29, .int v30, .ref m31, .ref m32, .ref m33, .int v34, .int v35, .int v36, .ref m37, .ref m38, .ref m39, .ref m40, .long v41])), (m17, .inl (k 0, 30, .inl f17)), (m20, .inl (k 0, 120, .inl f20)), (m37, .inl (k 0, 6, .inl (upd o_22 L15l4.toNatClampNeg x_31))), (m38, .inl (k 0, 6, .inl o_23))] H := hP
              have hD : va_D A [(mo, .inr (12, [.int v0, .ref m1, .ref m2, .ref m3, .ref m4, .ref m5, .int v6, .int v7, .int v8, .int v9, .int v10, .long v11, .int v12, .int v13, .int v14, .int v15, .ref m16, .ref m17, .ref m18, .ref m19, .ref m20, .ref m21, .ref m22, .ref m23, .int v24, .ref m25, .ref m26, .ref m27, .ref m28, .ref m29, .int v30, .ref m31, .ref m32, .ref m33, .int v34, .int v35, .int v36, .ref m37, .ref m38, .ref m39, .ref m40, .long v41])), (m17, .inl (k 0, 30, .inl f17)), (m20, .inl (k 0, 120, .inl f20)), (m37, .inl (k 0, 6, .inl (upd o_22 L15l4.toNatClampNeg x_31))), (m38, .inl (k 0, 6, .inl o_23))] := hD
              rw [eg_32] at hP hD
              obtain ⟨x_33, ex_33⟩ : ∃ y : Int32, y = L15l4 + 1 := ⟨_, rfl⟩
              have zx_33 : x_33.toInt = L15l4.toInt + 1 := by rw [ex_33]; exact z_add rfl rfl (by omega) (by omega)
              refine lv_iinc (v := x_33) (lv' := [(4, .int x_33), (0, .ref mo), (1, .int 4), (2, .int p1), (3, .int p2)]) hx hb dX12_packs_124 hl (k := 4) rfl (by rw [ex_33]; rfl) (by decide) rfl (fun ls hl => ?_)
              refine lv_goto (tgt := 15) hx hb dX12_packs_127 (by decide) ?_
              exact ih_3 _ _ _ _ (by omega) ⟨x_33, g_32, o_23, rfl, (show 0 ≤ x_33.toInt ∧ x_33.toInt ≤ 5 from by omega), hP.sub (ws' := [(mo, .inr (12, [.int v0, .ref m1, .ref m2, .ref m3, .ref m4, .ref m5, .int v6, .int v7, .int v8, .int v9, .int v10, .long v11, .int v12, .int v13, .int v14, .int v15, .ref m16, .ref m17, .ref m18, .ref m19, .ref m20, .ref m21, .ref m22, .ref m23, .int v24, .ref m25, .ref m26, .ref m27, .ref m28, .ref m29, .int v30, .ref m31, .ref m32, .ref m33, .int v34, .int v35, .int v36, .ref m37, .ref m38, .ref m39, .ref m40, .long v41])), (m17, .inl (k 0, 30, .inl f17)), (m20, .inl (k 0, 120, .inl f20)), (m37, .inl (k 0, 6, .inl g_32)), (m38, .inl (k 0, 6, .inl o_23))]) [0, 1, 2, 3, 4] rfl, hD.sub (ws' := [(mo, .inr (12, [.int v0, .ref m1, .ref m2, .ref m3, .ref m4, .ref m5, .int v6, .int v7, .int v8, .int v9, .int v10, .long v11, .int v12, .int v13, .int v14, .int v15, .ref m16, .ref m17, .ref m18, .ref m19, .ref m20, .ref m21, .ref m22, .ref m23, .int v24, .ref m25, .ref m26, .ref m27, .ref m28, .ref m29, .int v30, .ref m31, .ref m32, .ref m33, .int v34, .int v35, .int v36, .ref m37, .ref m38, .ref m39, .ref m40, .long v41])), (m17, .inl (k 0, 30, .inl f17)), (m20, .inl (k 0, 120, .inl f20)), (m37, .inl (k 0, 6, .inl g_32)), (m38, .inl (k 0, 6, .inl o_23))]) [0, 1, 2, 3, 4] (by decide +kernel) rfl, hS, lv_sub hl [1, 2, 3, 4, 0] rfl⟩
            · skip
              have zh_26 : ¬ r_21.toInt = 0 := z_ne h_26
              refine lv_iconst (v := 1) hx hb dX12_packs_102 (by decide) ?_
              obtain ⟨hP9, hD9⟩ := sub2 hP hD (ws' := [(mo, .inr (12, [.int v0, .ref m1, .ref m2, .ref m3, .ref m4, .ref m5, .int v6, .int v7, .int v8, .int v9, .int v10, .long v11, .int v12, .int v13, .int v14, .int v15, .ref m16, .ref m17, .ref m18, .ref m19, .ref m20, .ref m21, .ref m22, .ref m23, .int v24, .ref m25, .ref m26, .ref m27, .ref m28, .ref m29, .int v30, .ref m31, .ref m32, .ref m33, .int v34, .int v35, .int v36, .ref m37, .ref m38, .ref m39, .ref m40, .long v41])), (m17, .inl (k 0, 30, .inl f17)), (m20, .inl (k 0, 120, .inl f20)), (m37, .inl (k 0, 6, .inl o_22)), (m38, .inl (k 0, 6, .inl o_23))]) [0, 1, 2, 3, 4] (by decide +kernel) rfl
              exact W.zret (v := 1) hx hb hr (by decide) (fun tZ ht hW => ⟨⟨1, (o_22, o_23), rfl, (show 0 ≤ 1 ∧ 1 ≤ 1 from by omega), by rw [ht]; exact hP9, va_K.moved hW.alike hK, hD9⟩, hS.F ht⟩) hS.2.2 dX12_packs_103
          · skip
            have zh_20 : L15l4.toInt = p1.toInt := z_eq h_20
            refine lv_iload_n hx hb dX12_packs_88 rfl (lv_at hl 2 rfl) ?_
            refine lv_iconst (v := 1) hx hb dX12_packs_89 (by decide) ?_
            refine lv_iadd hx hb dX12_packs_90 ?_
            refine lv_topi (fun x_34 ex_34 => ?_)
            have zx_34 : x_34.toInt = p1.toInt + 1 := by rw [ex_34]; exact z_add rfl rfl (by omega) (by omega)
            refine lv_goto (tgt := 95) hx hb dX12_packs_91 (by decide) ?_
            refine lv_iload_n hx hb dX12_packs_95 rfl (lv_at hl 3 rfl) ?_
            obtain ⟨hPc, hDc, hFc⟩ := sub3 hP hD hS hA (ws' := [(mo, .inr (12, [.int v0, .ref m1, .ref m2, .ref m3, .ref m4, .ref m5, .int v6, .int v7, .int v8, .int v9, .int v10, .long v11, .int v12, .int v13, .int v14, .int v15, .ref m16, .ref m17, .ref m18, .ref m19, .ref m20, .ref m21, .ref m22, .ref m23, .int v24, .ref m25, .ref m26, .ref m27, .ref m28, .ref m29, .int v30, .ref m31, .ref m32, .ref m33, .int v34, .int v35, .int v36, .ref m37, .ref m38, .ref m39, .ref m40, .long v41])), (m17, .inl (k 0, 30, .inl f17)), (m20, .inl (k 0, 120, .inl f20)), (m37, .inl (k 0, 6, .inl g_17)), (m38, .inl (k 0, 6, .inl g_18))]) [0, 1, 2, 3, 4] (by decide +kernel) rfl
            refine va_calli (va_runV (C := RX12) (As := [.int 5, .int x_34, .int p2]) (rest := []) ⟨hx, hb, hml, hown, hts⟩ (c_X12_packs_1 l D k mo x_34 p2 v0 m1 m2 m3 m4 m5 v6 v7 v8 v9 v10 v11 v12 v13 v14 v15 m16 m17 m18 m19 m20 m21 m22 m23 v24 m25 m26 m27 m28 m29 v30 m31 m32 m33 v34 v35 v36 m37 m38 m39 m40 v41 f17 f20 g_17 g_18 H.size (show 0 ≤ x_34.toInt ∧ x_34.toInt ≤ 5 from by omega) (show 0 ≤ p2.toInt ∧ p2.toInt ≤ 6 from by omega) (show 0 ≤ v6.toInt ∧ v6.toInt ≤ 1000 from by omega) (show 0 ≤ v24.toInt ∧ v24.toInt ≤ 1023 from by omega) hp_f17_0 hp_f17_1 hp_f17_2 hp_f17_3 hp_f17_4 hp_f17_5 hp_f20_0 (show 5 ≤ (f17 3).toInt from by rw [show f17 3 = x_1 from ex_1.symm]; omega)) (cwV 3 hts (gV tw_8_146 tw_8_148 tw_p_90 tw_1_13 tw_8_149) rfl rfl rfl hdV_X12_packs ⟨Nat.le_of_ble_eq_true rfl, Nat.le_of_ble_eq_true rfl⟩) (cz_V hK hPc hDc hN (ci := 12) (q0 := 0) rfl rfl [.int 5, .int x_34, .int p2]) rfl rfl hl.1 rfl (lv_room (Nat.le_of_ble_eq_true rfl)) dX12_packs_96 ⟨Nat.le_of_ble_eq_true rfl, Nat.le_of_ble_eq_true rfl⟩) hS (fun q _ h => hFc q h) hFc (fun r_35 uZ tZ H1 locs ht hvm hw hB hz1 hk1 hS => ?_)
            obtain ⟨o_36, o_37⟩ := uZ
            obtain ⟨hP1, hK1, hD1⟩ := hB
            rw [ht] at hP1
            obtain ⟨hP, hD⟩ := va_join (wr := []) (w1 := [(mo, .inr (12, [.int v0, .ref m1, .ref m2, .ref m3, .ref m4, .ref m5, .int v6, .int v7, .int v8, .int v9, .int v10, .long v11, .int v12, .int v13, .int v14, .int v15, .ref m16, .ref m17, .ref m18, .ref m19, .ref m20, .ref m21, .ref m22, .ref m23, .int v24, .ref m25, .ref m26, .ref m27, .ref m28, .ref m29, .int v30, .ref m31, .ref m32, .ref m33, .int v34, .int v35, .int v36, .ref m37, .ref m38, .ref m39, .ref m40, .long v41])), (m17, .inl (k 0, 30, .inl f17)), (m20, .inl (k 0, 120, .inl f20)), (m37, .inl (k 0, 6, .inl o_36)), (m38, .inl (k 0, 6, .inl o_37))]) hP hD [0, 1, 2, 3, 4] [] rfl rfl (by decide +kernel) (by decide +kernel) hk1 hFc hP1 hD1
            clear hK1 hP1 hD1 hPc hDc hFc
            clear hk1 hz1 ht hvm
            have hP : va_P D vwCl [(mo, .inr (12, [.int v0, .ref m1, .ref m2, .ref m3, .ref m4, .ref m5, .int v6, .int v7, .int v8, .int v9, .int v10, .long v11, .int v12, .int v13, .int v14, .int v15, .ref m16, .ref m17, .ref m18, .ref m19, .ref m20, .ref m21, .ref m22, .ref m23, .int v24, .ref m25, .ref m26, .ref m27, .ref m28, .ref m29, .int v30, .ref m31, .ref m32, .ref m33, .int v34, .int v35, .int v36, .ref m37, .ref m38, .ref m39, .ref m40, .long v41])), (m17, .inl (k 0, 30, .inl f17)), (m20, .inl (k 0, 120, .inl f20)), (m37, .inl (k 0, 6, .inl o_36)), (m38, .inl (k 0, 6, .inl o_37))] H1 := hP
            have hD : va_D A [(mo, .inr (12, [.int v0, .ref m1, .ref m2, .ref m3, .ref m4, .ref m5, .int v6, .int v7, .int v8, .int v9, .int v10, .long v11, .int v12, .int v13, .int v14, .int v15, .ref m16, .ref m17, .ref m18, .ref m19, .ref m20, .ref m21, .ref m22, .ref m23, .int v24, .ref m25, .ref m26, .ref m27, .ref m28, .ref m29, .int v30, .ref m31, .ref m32, .ref m33, .int v34, .int v35, .int v36, .ref m37, .ref m38, .ref m39, .ref m40, .long v41])), (m17, .inl (k 0, 30, .inl f17)), (m20, .inl (k 0, 120, .inl f20)), (m37, .inl (k 0, 6, .inl o_36)), (m38, .inl (k 0, 6, .inl o_37))] := hD
            generalize H1 = H at hP hS ⊢
            have hw_38 : (0 ≤ r_35.toInt ∧ r_35.toInt ≤ 1) := hw
            have hw_39 := hw_38
            clear hw
            refine lv_if_eq (tgt := 104) hx hb dX12_packs_99 (by decide) (fun h_40 => ?_) (fun h_40 => ?_)
            · skip
              have zh_40 : r_35.toInt = 0 := z_eq h_40
              refine lv_aload_n hx hb dX12_packs_104 rfl (lv_at hl 0 rfl) ?_
              refine va_get (D := D) (ci := 12) (v := .ref m37) (C := RX12) (T := TX12) (N := 42) hx hb hts iT_X12 hown hK hP 0 rfl rfl 37 (by decide) (hts _ tw_6_90) (fun _ h9 => h9) rfl dX12_packs_105 ?_
              refine lv_iload hx hb dX12_packs_108 (lv_at hl 4 rfl) ?_
              refine lv_dup2_11 hx hb dX12_packs_110 rfl rfl ?_
              refine va_iald hx hb hK hP 3 0 rfl rfl (z_in (by omega) (by omega)) dX12_packs_111 ?_
              refine lv_topi (fun x_41 ex_41 => ?_)
              refine lv_aload_n hx hb dX12_packs_112 rfl (lv_at hl 0 rfl) ?_
              refine va_get (D := D) (ci := 12) (v := .ref m20) (C := RX12) (T := TX12) (N := 42) hx hb hts iT_X12 hown hK hP 0 rfl rfl 20 (by decide) (hts _ tw_6_73) (fun _ h9 => h9) rfl dX12_packs_113 ?_
              refine lv_iconst (v := 4) hx hb dX12_packs_116 (by decide) ?_
              refine lv_iload_n hx hb dX12_packs_117 rfl (lv_at hl 1 rfl) ?_
              refine lv_imul hx hb dX12_packs_118 ?_
              refine lv_topi (fun x_42 ex_42 => ?_)
              obtain rfl : x_42 = 16 := ex_42.trans (by decide)
              refine lv_iconst (v := 3) hx hb dX12_packs_119 (by decide) ?_
              refine lv_iadd hx hb dX12_packs_120 ?_
              refine lv_topi (fun x_43 ex_43 => ?_)
              obtain rfl : x_43 = 19 := ex_43.trans (by decide)
              refine va_iald hx hb hK hP 2 0 rfl rfl (z_in (by decide) (by decide)) dX12_packs_121 ?_
              refine lv_topi (fun x_44 ex_44 => ?_)
              obtain rfl : x_10 = x_44 := ex_10.trans ex_44.symm
              refine lv_iadd hx hb dX12_packs_122 ?_
              refine lv_topi (fun x_45 ex_45 => ?_)
              have zrx_41 := z_rng x_41
              refine va_iast hx hb hK hP hD hS 3 0 rfl rfl (z_in (by omega) (by omega)) dX12_packs_123 (fun H locs hP hD hS => ?_)
              obtain ⟨g_46, eg_46⟩ : ∃ z : Nat → Int32, upd o_36 L15l4.toNatClampNeg x_45 = z := ⟨_, rfl⟩
              have hP : va_P D vwCl [(mo, .inr (12, [.int v0, .ref m1, .ref m2, .ref m3, .ref m4, .ref m5, .int v6, .int v7, .int v8, .int v9, .int v10, .long v11, .int v12, .int v13, .int v14, .int v15, .ref m16, .ref m17, .ref m18, .ref m19, .ref m20, .ref m21, .ref m22, .ref m23, .int v24, .ref m25, .ref m26, .ref m27, .ref m28, .ref m29, .int v30, .ref m31, .ref m32, .ref m33, .int v34, .int v35, .int v36, .ref m37, .ref m38, .ref m39, .ref m40, .long v41])), (m17, .inl (k 0, 30, .inl f17)), (m20, .inl (k 0, 120, .inl f20)), (m37, .inl (k 0, 6, .inl (upd o_36 L15l4.toNatClampNeg x_45))), (m38, .inl (k 0, 6, .inl o_37))] H := hP
              have hD : va_D A [(mo, .inr (12, [.int v0, .ref m1, .ref m2, .ref m3, .ref m4, .ref m5, .int v6, .int v7, .int v8, .int v9, .int v10, .long v11, .int v12, .int v13, .int v14, .int v15, .ref m16, .ref m17, .ref m18, .ref m19, .ref m20, .ref m21, .ref m22, .ref m23, .int v24, .ref m25, .ref m26, .ref m27, .ref m28, .ref m29, .int v30, .ref m31, .ref m32, .ref m33, .int v34, .int v35, .int v36, .ref m37, .ref m38, .ref m39, .ref m40, .long v41])), (m17, .inl (k 0, 30, .inl f17)), (m20, .inl (k 0, 120, .inl f20)), (m37, .inl (k 0, 6, .inl (upd o_36 L15l4.toNatClampNeg x_45))), (m38, .inl (k 0, 6, .inl o_37))] := hD
              rw [eg_46] at hP hD
              obtain ⟨x_47, ex_47⟩ : ∃ y : Int32, y = L15l4 + 1 := ⟨_, rfl⟩
              have zx_47 : x_47.toInt = L15l4.toInt + 1 := by rw [ex_47]; exact z_add rfl rfl (by omega) (by omega)
              refine lv_iinc (v := x_47) (lv' := [(4, .int x_47), (0, .ref mo), (1, .int 4), (2, .int p1), (3, .int p2)]) hx hb dX12_packs_124 hl (k := 4) rfl (by rw [ex_47]; rfl) (by decide) rfl (fun ls hl => ?_)
              refine lv_goto (tgt := 15) hx hb dX12_packs_127 (by decide) ?_
              exact ih_3 _ _ _ _ (by omega) ⟨x_47, g_46, o_37, rfl, (show 0 ≤ x_47.toInt ∧ x_47.toInt ≤ 5 from by omega), hP.sub (ws' := [(mo, .inr (12, [.int v0, .ref m1, .ref m2, .ref m3, .ref m4, .ref m5, .int v6, .int v7, .int v8, .int v9, .int v10, .long v11, .int v12, .int v13, .int v14, .int v15, .ref m16, .ref m17, .ref m18, .ref m19, .ref m20, .ref m21, .ref m22, .ref m23, .int v24, .ref m25, .ref m26, .ref m27, .ref m28, .ref m29, .int v30, .ref m31, .ref m32, .ref m33, .int v34, .int v35, .int v36, .ref m37, .ref m38, .ref m39, .ref m40, .long v41])), (m17, .inl (k 0, 30, .inl f17)), (m20, .inl (k 0, 120, .inl f20)), (m37, .inl (k 0, 6, .inl g_46)), (m38, .inl (k 0, 6, .inl o_37))]) [0, 1, 2, 3, 4] rfl, hD.sub (ws' := [(mo, .inr (12, [.int v0, .ref m1, .ref m2, .ref m3, .ref m4, .ref m5, .int v6, .int v7, .int v8, .int v9, .int v10, .long v11, .int v12, .int v13, .int v14, .int v15, .ref m16, .ref m17, .ref m18, .ref m19, .ref m20, .ref m21, .ref m22, .ref m23, .int v24, .ref m25, .ref m26, .ref m27, .ref m28, .ref m29, .int v30, .ref m31, .ref m32, .ref m33, .int v34, .int v35, .int v36, .ref m37, .ref m38, .ref m39, .ref m40, .long v41])), (m17, .inl (k 0, 30, .inl f17)), (m20, .inl (k 0, 120, .inl f20)), (m37, .inl (k 0, 6, .inl g_46)), (m38, .inl (k 0, 6, .inl o_37))]) [0, 1, 2, 3, 4] (by decide +kernel) rfl, hS, lv_sub hl [1, 2, 3, 4, 0] rfl⟩
            · skip
              have zh_40 : ¬ r_35.toInt = 0 := z_ne h_40
              refine lv_iconst (v := 1) hx hb dX12_packs_102 (by decide) ?_
              obtain ⟨hP9, hD9⟩ := sub2 hP hD (ws' := [(mo, .inr (12, [.int v0, .ref m1, .ref m2, .ref m3, .ref m4, .ref m5, .int v6, .int v7, .int v8, .int v9, .int v10, .long v11, .int v12, .int v13, .int v14, .int v15, .ref m16, .ref m17, .ref m18, .ref m19, .ref m20, .ref m21, .ref m22, .ref m23, .int v24, .ref m25, .ref m26, .ref m27, .ref m28, .ref m29, .int v30, .ref m31, .ref m32, .ref m33, .int v34, .int v35, .int v36, .ref m37, .ref m38, .ref m39, .ref m40, .long v41])), (m17, .inl (k 0, 30, .inl f17)), (m20, .inl (k 0, 120, .inl f20)), (m37, .inl (k 0, 6, .inl o_36)), (m38, .inl (k 0, 6, .inl o_37))]) [0, 1, 2, 3, 4] (by decide +kernel) rfl
              exact W.zret (v := 1) hx hb hr (by decide) (fun tZ ht hW => ⟨⟨1, (o_36, o_37), rfl, (show 0 ≤ 1 ∧ 1 ≤ 1 from by omega), by rw [ht]; exact hP9, va_K.moved hW.alike hK, hD9⟩, hS.F ht⟩) hS.2.2 dX12_packs_103
        · skip
          have zh_11 : x_7.toInt < x_10.toInt := z_nle h_11
          refine lv_goto (tgt := 124) hx hb dX12_packs_47 (by decide) ?_
          obtain ⟨x_48, ex_48⟩ : ∃ y : Int32, y = L15l4 + 1 := ⟨_, rfl⟩
          have zx_48 : x_48.toInt = L15l4.toInt + 1 := by rw [ex_48]; exact z_add rfl rfl (by omega) (by omega)
          refine lv_iinc (v := x_48) (lv' := [(4, .int x_48), (0, .ref mo), (1, .int 4), (2, .int p1), (3, .int p2)]) hx hb dX12_packs_124 hl (k := 4) rfl (by rw [ex_48]; rfl) (by decide) rfl (fun ls hl => ?_)
          refine lv_goto (tgt := 15) hx hb dX12_packs_127 (by decide) ?_
          exact ih_3 _ _ _ _ (by omega) ⟨x_48, L15a3, L15a4, rfl, (show 0 ≤ x_48.toInt ∧ x_48.toInt ≤ 5 from by omega), hP.sub (ws' := [(mo, .inr (12, [.int v0, .ref m1, .ref m2, .ref m3, .ref m4, .ref m5, .int v6, .int v7, .int v8, .int v9, .int v10, .long v11, .int v12, .int v13, .int v14, .int v15, .ref m16, .ref m17, .ref m18, .ref m19, .ref m20, .ref m21, .ref m22, .ref m23, .int v24, .ref m25, .ref m26, .ref m27, .ref m28, .ref m29, .int v30, .ref m31, .ref m32, .ref m33, .int v34, .int v35, .int v36, .ref m37, .ref m38, .ref m39, .ref m40, .long v41])), (m17, .inl (k 0, 30, .inl f17)), (m20, .inl (k 0, 120, .inl f20)), (m37, .inl (k 0, 6, .inl L15a3)), (m38, .inl (k 0, 6, .inl L15a4))]) [0, 1, 2, 3, 4] rfl, hD.sub (ws' := [(mo, .inr (12, [.int v0, .ref m1, .ref m2, .ref m3, .ref m4, .ref m5, .int v6, .int v7, .int v8, .int v9, .int v10, .long v11, .int v12, .int v13, .int v14, .int v15, .ref m16, .ref m17, .ref m18, .ref m19, .ref m20, .ref m21, .ref m22, .ref m23, .int v24, .ref m25, .ref m26, .ref m27, .ref m28, .ref m29, .int v30, .ref m31, .ref m32, .ref m33, .int v34, .int v35, .int v36, .ref m37, .ref m38, .ref m39, .ref m40, .long v41])), (m17, .inl (k 0, 30, .inl f17)), (m20, .inl (k 0, 120, .inl f20)), (m37, .inl (k 0, 6, .inl L15a3)), (m38, .inl (k 0, 6, .inl L15a4))]) [0, 1, 2, 3, 4] (by decide +kernel) rfl, hS, lv_sub hl [1, 2, 3, 4, 0] rfl⟩
  · skip
    have zh_2 : 4 = x_1.toInt := z_eq h_2
    refine lv_iconst (v := 1) hx hb dX12_packs_10 (by decide) ?_
    obtain ⟨hP9, hD9⟩ := sub2 hP hD (ws' := [(mo, .inr (12, [.int v0, .ref m1, .ref m2, .ref m3, .ref m4, .ref m5, .int v6, .int v7, .int v8, .int v9, .int v10, .long v11, .int v12, .int v13, .int v14, .int v15, .ref m16, .ref m17, .ref m18, .ref m19, .ref m20, .ref m21, .ref m22, .ref m23, .int v24, .ref m25, .ref m26, .ref m27, .ref m28, .ref m29, .int v30, .ref m31, .ref m32, .ref m33, .int v34, .int v35, .int v36, .ref m37, .ref m38, .ref m39, .ref m40, .long v41])), (m17, .inl (k 0, 30, .inl f17)), (m20, .inl (k 0, 120, .inl f20)), (m37, .inl (k 0, 6, .inl f37)), (m38, .inl (k 0, 6, .inl f38))]) [0, 1, 2, 3, 4] (by decide +kernel) rfl
    exact W.zret (v := 1) hx hb hr (by decide) (fun tZ ht hW => ⟨⟨1, (f37, f38), rfl, (show 0 ≤ 1 ∧ 1 ≤ 1 from by omega), by rw [ht]; exact hP9, va_K.moved hW.alike hK, hD9⟩, hS.F ht⟩) hS.2.2 dX12_packs_11
set_option maxHeartbeats 4000000 in
set_option maxRecDepth 100000 in
theorem c_X12_packs_3 (l : Launch) (D : va_G) (k : Nat → ClassId) (mo : Nat) (p1 : Int32) (p2 : Int32) (v0 : Int32) (m1 : Nat) (m2 : Nat) (m3 : Nat) (m4 : Nat) (m5 : Nat) (v6 : Int32) (v7 : Int32) (v8 : Int32) (v9 : Int32) (v10 : Int32) (v11 : Int64) (v12 : Int32) (v13 : Int32) (v14 : Int32) (v15 : Int32) (m16 : Nat) (m17 : Nat) (m18 : Nat) (m19 : Nat) (m20 : Nat) (m21 : Nat) (m22 : Nat) (m23 : Nat) (v24 : Int32) (m25 : Nat) (m26 : Nat) (m27 : Nat) (m28 : Nat) (m29 : Nat) (v30 : Int32) (m31 : Nat) (m32 : Nat) (m33 : Nat) (v34 : Int32) (v35 : Int32) (v36 : Int32) (m37 : Nat) (m38 : Nat) (m39 : Nat) (m40 : Nat) (v41 : Int64) (f17 : Nat → Int32) (f20 : Nat → Int32) (f37 : Nat → Int32) (f38 : Nat → Int32) (sz : Nat) (h_p1 : 0 ≤ p1.toInt ∧ p1.toInt ≤ 3) (h_p2 : 0 ≤ p2.toInt ∧ p2.toInt ≤ 6) (h_v6 : 0 ≤ v6.toInt ∧ v6.toInt ≤ 1000) (h_v24 : 0 ≤ v24.toInt ∧ v24.toInt ≤ 1023) (hp_f17_0 : PR 30 6 0 0 8 f17) (hp_f17_1 : PR 30 6 1 0 10 f17) (hp_f17_2 : PR 30 6 2 0 4 f17) (hp_f17_3 : PR 30 6 3 0 6 f17) (hp_f17_4 : PR 30 6 4 0 2 f17) (hp_f17_5 : PR 30 6 5 0 40 f17) (hp_f20_0 : PR 120 4 0 0 7 f20) (hh : 3 ≤ (f17 3).toInt) : Met l yX12_packs (ww yX12_packs cX12_packs 5 (some .boolean)) ({ frames := 3, cells := 0, slots := 0, locals := 72 }) (Pre0 D k [(mo, .inr (12, [.int v0, .ref m1, .ref m2, .ref m3, .ref m4, .ref m5, .int v6, .int v7, .int v8, .int v9, .int v10, .long v11, .int v12, .int v13, .int v14, .int v15, .ref m16, .ref m17, .ref m18, .ref m19, .ref m20, .ref m21, .ref m22, .ref m23, .int v24, .ref m25, .ref m26, .ref m27, .ref m28, .ref m29, .int v30, .ref m31, .ref m32, .ref m33, .int v34, .int v35, .int v36, .ref m37, .ref m38, .ref m39, .ref m40, .long v41])), (m17, .inl (k 0, 30, .inl f17)), (m20, .inl (k 0, 120, .inl f20)), (m37, .inl (k 0, 6, .inl f37)), (m38, .inl (k 0, 6, .inl f38))] sz [.ref mo, .int 3, .int p1, .int p2]) (va_Qi (fun (r : Int32) (u : (Nat → Int32) × (Nat → Int32)) => match u with | (f37z, f38z) => (0 ≤ r.toInt ∧ r.toInt ≤ 1)) (fun (u : (Nat → Int32) × (Nat → Int32)) tZ => match u with | (f37z, f38z) => Bw D k (va_A [(mo, .inr (12, [.int v0, .ref m1, .ref m2, .ref m3, .ref m4, .ref m5, .int v6, .int v7, .int v8, .int v9, .int v10, .long v11, .int v12, .int v13, .int v14, .int v15, .ref m16, .ref m17, .ref m18, .ref m19, .ref m20, .ref m21, .ref m22, .ref m23, .int v24, .ref m25, .ref m26, .ref m27, .ref m28, .ref m29, .int v30, .ref m31, .ref m32, .ref m33, .int v34, .int v35, .int v36, .ref m37, .ref m38, .ref m39, .ref m40, .long v41])), (m17, .inl (k 0, 30, .inl f17)), (m20, .inl (k 0, 120, .inl f20)), (m37, .inl (k 0, 6, .inl f37)), (m38, .inl (k 0, 6, .inl f38))] sz) [(mo, .inr (12, [.int v0, .ref m1, .ref m2, .ref m3, .ref m4, .ref m5, .int v6, .int v7, .int v8, .int v9, .int v10, .long v11, .int v12, .int v13, .int v14, .int v15, .ref m16, .ref m17, .ref m18, .ref m19, .ref m20, .ref m21, .ref m22, .ref m23, .int v24, .ref m25, .ref m26, .ref m27, .ref m28, .ref m29, .int v30, .ref m31, .ref m32, .ref m33, .int v34, .int v35, .int v36, .ref m37, .ref m38, .ref m39, .ref m40, .long v41])), (m17, .inl (k 0, 30, .inl f17)), (m20, .inl (k 0, 120, .inl f20)), (m37, .inl (k 0, 6, .inl f37z)), (m38, .inl (k 0, 6, .inl f38z))] tZ) (va_A [(mo, .inr (12, [.int v0, .ref m1, .ref m2, .ref m3, .ref m4, .ref m5, .int v6, .int v7, .int v8, .int v9, .int v10, .long v11, .int v12, .int v13, .int v14, .int v15, .ref m16, .ref m17, .ref m18, .ref m19, .ref m20, .ref m21, .ref m22, .ref m23, .int v24, .ref m25, .ref m26, .ref m27, .ref m28, .ref m29, .int v30, .ref m31, .ref m32, .ref m33, .int v34, .int v35, .int v36, .ref m37, .ref m38, .ref m39, .ref m40, .long v41])), (m17, .inl (k 0, 30, .inl f17)), (m20, .inl (k 0, 120, .inl f20)), (m37, .inl (k 0, 6, .inl f37)), (m38, .inl (k 0, 6, .inl f38))] sz)) 0 0 (va_A [(mo, .inr (12, [.int v0, .ref m1, .ref m2, .ref m3, .ref m4, .ref m5, .int v6, .int v7, .int v8, .int v9, .int v10, .long v11, .int v12, .int v13, .int v14, .int v15, .ref m16, .ref m17, .ref m18, .ref m19, .ref m20, .ref m21, .ref m22, .ref m23, .int v24, .ref m25, .ref m26, .ref m27, .ref m28, .ref m29, .int v30, .ref m31, .ref m32, .ref m33, .int v34, .int v35, .int v36, .ref m37, .ref m38, .ref m39, .ref m40, .long v41])), (m17, .inl (k 0, 30, .inl f17)), (m20, .inl (k 0, 120, .inl f20)), (m37, .inl (k 0, 6, .inl f37)), (m38, .inl (k 0, 6, .inl f38))] sz) := by
  refine Met.ofW (cc := cX12_packs) (maxL := 5) (ret := (some .boolean)) (by decide +kernel) rfl ?_
  intro p e s m args below meth c s₁ B hml hv
  obtain ⟨rfl, hsz, hP, hK, hD0, hN⟩ := hv
  have hx := B.exec
  have hb := B.bytes
  have hr := B.returns
  have hts : ∀ w ∈ TT, w.before _ s = true := fun w h => atoms_spec (ws := ww yX12_packs cX12_packs 5 (some .boolean)) B.pre w (List.mem_cons_of_mem _ h)
  have hown : s.vm.findClass RX12 = some m.cls := findClass_of_methodNamed B.named
  have hlocks := B.notSynchronized
  subst hsz
  have hD := hD0.self (sz := s.heap.size)
  generalize hAe : va_A [(mo, .inr (12, [.int v0, .ref m1, .ref m2, .ref m3, .ref m4, .ref m5, .int v6, .int v7, .int v8, .int v9, .int v10, .long v11, .int v12, .int v13, .int v14, .int v15, .ref m16, .ref m17, .ref m18, .ref m19, .ref m20, .ref m21, .ref m22, .ref m23, .int v24, .ref m25, .ref m26, .ref m27, .ref m28, .ref m29, .int v30, .ref m31, .ref m32, .ref m33, .int v34, .int v35, .int v36, .ref m37, .ref m38, .ref m39, .ref m40, .long v41])), (m17, .inl (k 0, 30, .inl f17)), (m20, .inl (k 0, 120, .inl f20)), (m37, .inl (k 0, 6, .inl f37)), (m38, .inl (k 0, 6, .inl f38))] s.heap.size = A at hD ⊢
  have hA : ∀ q : Nat, s.heap.size ≤ q → A q := fun q h => by rw [← hAe]; exact Or.inr h
  have hS : va_S A s.heap s.heap [] := va_S.rf
  have hl := lv_entry ([.ref mo, .int 3, .int p1, .int p2]) (n := 5) (Nat.le_of_ble_eq_true rfl)
  rw [lg_entry_eq]
  generalize (lg_sl ([.ref mo, .int 3, .int p1, .int p2]) ++ List.replicate (5 - (lg_sl ([.ref mo, .int 3, .int p1, .int p2])).length) Slot.unset).toArray = ls at hl ⊢
  have hl : lv_has ls 5 [(0, .ref mo), (1, .int 3), (2, .int p1), (3, .int p2)] := hl
  refine lv_iload_n hx hb dX12_packs_0 rfl (lv_at hl 1 rfl) ?_
  refine lv_aload_n hx hb dX12_packs_1 rfl (lv_at hl 0 rfl) ?_
  refine va_get (D := D) (ci := 12) (v := .ref m17) (C := RX12) (T := TX12) (N := 42) hx hb hts iT_X12 hown hK hP 0 rfl rfl 17 (by decide) (hts _ tw_6_70) (fun _ h9 => h9) rfl dX12_packs_2 ?_
  refine lv_iconst (v := 3) hx hb dX12_packs_5 (by decide) ?_
  refine va_iald hx hb hK hP 1 0 rfl rfl (z_in (by decide) (by decide)) dX12_packs_6 ?_
  refine lv_topi (fun x_1 ex_1 => ?_)
  have zx_1r3 : 0 ≤ x_1.toInt ∧ x_1.toInt ≤ 6 := by rw [ex_1]; exact PR.ld hp_f17_3 (by decide) (by decide) (by decide)
  have zpx_1 : 3 ≤ x_1.toInt := by rw [ex_1]; exact hh
  refine lv_icmp_ne (tgt := 12) hx hb dX12_packs_7 (by decide) (fun h_2 => ?_) (fun h_2 => ?_)
  · skip
    have zh_2 : ¬ 3 = x_1.toInt := z_ne h_2
    refine lv_iconst (v := 0) hx hb dX12_packs_12 (by decide) ?_
    refine lv_istore (lv' := [(4, .int 0), (0, .ref mo), (1, .int 3), (2, .int p1), (3, .int p2)]) hx hb dX12_packs_13 hl (by decide) rfl (fun ls hl => ?_)
    refine loop_r (Wg := fun H locs ls => W p l e _ s m _ below meth c H locs _ _ _ (F0 m 15 ls [])) (fun n9 H locs ls => ∃ (L15l4 : Int32) (L15a3 : Nat → Int32) (L15a4 : Nat → Int32), n9 = (4 - L15l4.toInt).toNat ∧ (0 ≤ L15l4.toInt ∧ L15l4.toInt ≤ 4) ∧ va_P D vwCl [(mo, .inr (12, [.int v0, .ref m1, .ref m2, .ref m3, .ref m4, .ref m5, .int v6, .int v7, .int v8, .int v9, .int v10, .long v11, .int v12, .int v13, .int v14, .int v15, .ref m16, .ref m17, .ref m18, .ref m19, .ref m20, .ref m21, .ref m22, .ref m23, .int v24, .ref m25, .ref m26, .ref m27, .ref m28, .ref m29, .int v30, .ref m31, .ref m32, .ref m33, .int v34, .int v35, .int v36, .ref m37, .ref m38, .ref m39, .ref m40, .long v41])), (m17, .inl (k 0, 30, .inl f17)), (m20, .inl (k 0, 120, .inl f20)), (m37, .inl (k 0, 6, .inl L15a3)), (m38, .inl (k 0, 6, .inl L15a4))] H ∧ va_D A [(mo, .inr (12, [.int v0, .ref m1, .ref m2, .ref m3, .ref m4, .ref m5, .int v6, .int v7, .int v8, .int v9, .int v10, .long v11, .int v12, .int v13, .int v14, .int v15, .ref m16, .ref m17, .ref m18, .ref m19, .ref m20, .ref m21, .ref m22, .ref m23, .int v24, .ref m25, .ref m26, .ref m27, .ref m28, .ref m29, .int v30, .ref m31, .ref m32, .ref m33, .int v34, .int v35, .int v36, .ref m37, .ref m38, .ref m39, .ref m40, .long v41])), (m17, .inl (k 0, 30, .inl f17)), (m20, .inl (k 0, 120, .inl f20)), (m37, .inl (k 0, 6, .inl L15a3)), (m38, .inl (k 0, 6, .inl L15a4))] ∧ va_S A s.heap H locs ∧ lv_has ls 5 [(0, .ref mo), (1, .int 3), (2, .int p1), (3, .int p2), (4, .int L15l4)]) (fun n9 H locs ls hI ih_3 => ?_) _ _ _ _ ⟨0, f37, f38, rfl, (show 0 ≤ 0 ∧ 0 ≤ 4 from by omega), hP.sub (ws' := [(mo, .inr (12, [.int v0, .ref m1, .ref m2, .ref m3, .ref m4, .ref m5, .int v6, .int v7, .int v8, .int v9, .int v10, .long v11, .int v12, .int v13, .int v14, .int v15, .ref m16, .ref m17, .ref m18, .ref m19, .ref m20, .ref m21, .ref m22, .ref m23, .int v24, .ref m25, .ref m26, .ref m27, .ref m28, .ref m29, .int v30, .ref m31, .ref m32, .ref m33, .int v34, .int v35, .int v36, .ref m37, .ref m38, .ref m39, .ref m40, .long v41])), (m17, .inl (k 0, 30, .inl f17)), (m20, .inl (k 0, 120, .inl f20)), (m37, .inl (k 0, 6, .inl f37)), (m38, .inl (k 0, 6, .inl f38))]) [0, 1, 2, 3, 4] rfl, hD.sub (ws' := [(mo, .inr (12, [.int v0, .ref m1, .ref m2, .ref m3, .ref m4, .ref m5, .int v6, .int v7, .int v8, .int v9, .int v10, .long v11, .int v12, .int v13, .int v14, .int v15, .ref m16, .ref m17, .ref m18, .ref m19, .ref m20, .ref m21, .ref m22, .ref m23, .int v24, .ref m25, .ref m26, .ref m27, .ref m28, .ref m29, .int v30, .ref m31, .ref m32, .ref m33, .int v34, .int v35, .int v36, .ref m37, .ref m38, .ref m39, .ref m40, .long v41])), (m17, .inl (k 0, 30, .inl f17)), (m20, .inl (k 0, 120, .inl f20)), (m37, .inl (k 0, 6, .inl f37)), (m38, .inl (k 0, 6, .inl f38))]) [0, 1, 2, 3, 4] (by decide +kernel) rfl, hS, lv_sub hl [1, 2, 3, 4, 0] rfl⟩
    clear hP hD hS hl
    obtain ⟨L15l4, L15a3, L15a4, en_4, zL15l4, hP, hD, hS, hl⟩ := hI
    refine lv_iload hx hb dX12_packs_15 (lv_at hl 4 rfl) ?_
    refine lv_iload_n hx hb dX12_packs_17 rfl (lv_at hl 2 rfl) ?_
    refine lv_icmp_gt (tgt := 130) hx hb dX12_packs_18 (by decide) (fun h_5 => ?_) (fun h_5 => ?_)
    · skip
      have zh_5 : p1.toInt < L15l4.toInt := z_lt h_5
      refine lv_iconst (v := 0) hx hb dX12_packs_130 (by decide) ?_
      obtain ⟨hP9, hD9⟩ := sub2 hP hD (ws' := [(mo, .inr (12, [.int v0, .ref m1, .ref m2, .ref m3, .ref m4, .ref m5, .int v6, .int v7, .int v8, .int v9, .int v10, .long v11, .int v12, .int v13, .int v14, .int v15, .ref m16, .ref m17, .ref m18, .ref m19, .ref m20, .ref m21, .ref m22, .ref m23, .int v24, .ref m25, .ref m26, .ref m27, .ref m28, .ref m29, .int v30, .ref m31, .ref m32, .ref m33, .int v34, .int v35, .int v36, .ref m37, .ref m38, .ref m39, .ref m40, .long v41])), (m17, .inl (k 0, 30, .inl f17)), (m20, .inl (k 0, 120, .inl f20)), (m37, .inl (k 0, 6, .inl L15a3)), (m38, .inl (k 0, 6, .inl L15a4))]) [0, 1, 2, 3, 4] (by decide +kernel) rfl
      exact W.zret (v := 0) hx hb hr (by decide) (fun tZ ht hW => ⟨⟨0, (L15a3, L15a4), rfl, (show 0 ≤ 0 ∧ 0 ≤ 1 from by omega), by rw [ht]; exact hP9, va_K.moved hW.alike hK, hD9⟩, hS.F ht⟩) hS.2.2 dX12_packs_131
    · skip
      have zh_5 : L15l4.toInt ≤ p1.toInt := z_nlt h_5
      refine lv_iload hx hb dX12_packs_21 (lv_at hl 4 rfl) ?_
      refine lv_iload_n hx hb dX12_packs_23 rfl (lv_at hl 3 rfl) ?_
      refine lv_icmp_ge (tgt := 130) hx hb dX12_packs_24 (by decide) (fun h_6 => ?_) (fun h_6 => ?_)
      · skip
        have zh_6 : p2.toInt ≤ L15l4.toInt := z_le h_6
        refine lv_iconst (v := 0) hx hb dX12_packs_130 (by decide) ?_
        obtain ⟨hP9, hD9⟩ := sub2 hP hD (ws' := [(mo, .inr (12, [.int v0, .ref m1, .ref m2, .ref m3, .ref m4, .ref m5, .int v6, .int v7, .int v8, .int v9, .int v10, .long v11, .int v12, .int v13, .int v14, .int v15, .ref m16, .ref m17, .ref m18, .ref m19, .ref m20, .ref m21, .ref m22, .ref m23, .int v24, .ref m25, .ref m26, .ref m27, .ref m28, .ref m29, .int v30, .ref m31, .ref m32, .ref m33, .int v34, .int v35, .int v36, .ref m37, .ref m38, .ref m39, .ref m40, .long v41])), (m17, .inl (k 0, 30, .inl f17)), (m20, .inl (k 0, 120, .inl f20)), (m37, .inl (k 0, 6, .inl L15a3)), (m38, .inl (k 0, 6, .inl L15a4))]) [0, 1, 2, 3, 4] (by decide +kernel) rfl
        exact W.zret (v := 0) hx hb hr (by decide) (fun tZ ht hW => ⟨⟨0, (L15a3, L15a4), rfl, (show 0 ≤ 0 ∧ 0 ≤ 1 from by omega), by rw [ht]; exact hP9, va_K.moved hW.alike hK, hD9⟩, hS.F ht⟩) hS.2.2 dX12_packs_131
      · skip
        have zh_6 : L15l4.toInt < p2.toInt := z_nle h_6
        refine lv_aload_n hx hb dX12_packs_27 rfl (lv_at hl 0 rfl) ?_
        refine va_get (D := D) (ci := 12) (v := .ref m37) (C := RX12) (T := TX12) (N := 42) hx hb hts iT_X12 hown hK hP 0 rfl rfl 37 (by decide) (hts _ tw_6_90) (fun _ h9 => h9) rfl dX12_packs_28 ?_
        refine lv_iload hx hb dX12_packs_31 (lv_at hl 4 rfl) ?_
        refine va_iald hx hb hK hP 3 0 rfl rfl (z_in (by omega) (by omega)) dX12_packs_33 ?_
        refine lv_topi (fun x_7 ex_7 => ?_)
        refine lv_aload_n hx hb dX12_packs_34 rfl (lv_at hl 0 rfl) ?_
        refine va_get (D := D) (ci := 12) (v := .ref m20) (C := RX12) (T := TX12) (N := 42) hx hb hts iT_X12 hown hK hP 0 rfl rfl 20 (by decide) (hts _ tw_6_73) (fun _ h9 => h9) rfl dX12_packs_35 ?_
        refine lv_iconst (v := 4) hx hb dX12_packs_38 (by decide) ?_
        refine lv_iload_n hx hb dX12_packs_39 rfl (lv_at hl 1 rfl) ?_
        refine lv_imul hx hb dX12_packs_40 ?_
        refine lv_topi (fun x_8 ex_8 => ?_)
        obtain rfl : x_8 = 12 := ex_8.trans (by decide)
        refine lv_iconst (v := 3) hx hb dX12_packs_41 (by decide) ?_
        refine lv_iadd hx hb dX12_packs_42 ?_
        refine lv_topi (fun x_9 ex_9 => ?_)
        obtain rfl : x_9 = 15 := ex_9.trans (by decide)
        refine va_iald hx hb hK hP 2 0 rfl rfl (z_in (by decide) (by decide)) dX12_packs_43 ?_
        refine lv_topi (fun x_10 ex_10 => ?_)
        refine lv_icmp_ge (tgt := 50) hx hb dX12_packs_44 (by decide) (fun h_11 => ?_) (fun h_11 => ?_)
        · skip
          have zh_11 : x_10.toInt ≤ x_7.toInt := z_le h_11
          refine lv_aload_n hx hb dX12_packs_50 rfl (lv_at hl 0 rfl) ?_
          refine va_get (D := D) (ci := 12) (v := .ref m37) (C := RX12) (T := TX12) (N := 42) hx hb hts iT_X12 hown hK hP 0 rfl rfl 37 (by decide) (hts _ tw_6_90) (fun _ h9 => h9) rfl dX12_packs_51 ?_
          refine lv_iload hx hb dX12_packs_54 (lv_at hl 4 rfl) ?_
          refine lv_dup2_11 hx hb dX12_packs_56 rfl rfl ?_
          refine va_iald hx hb hK hP 3 0 rfl rfl (z_in (by omega) (by omega)) dX12_packs_57 ?_
          refine lv_topi (fun x_12 ex_12 => ?_)
          obtain rfl : x_7 = x_12 := ex_7.trans ex_12.symm
          refine lv_aload_n hx hb dX12_packs_58 rfl (lv_at hl 0 rfl) ?_
          refine va_get (D := D) (ci := 12) (v := .ref m20) (C := RX12) (T := TX12) (N := 42) hx hb hts iT_X12 hown hK hP 0 rfl rfl 20 (by decide) (hts _ tw_6_73) (fun _ h9 => h9) rfl dX12_packs_59 ?_
          refine lv_iconst (v := 4) hx hb dX12_packs_62 (by decide) ?_
          refine lv_iload_n hx hb dX12_packs_63 rfl (lv_at hl 1 rfl) ?_
          refine lv_imul hx hb dX12_packs_64 ?_
          refine lv_topi (fun x_13 ex_13 => ?_)
          obtain rfl : x_13 = 12 := ex_13.trans (by decide)
          refine lv_iconst (v := 3) hx hb dX12_packs_65 (by decide) ?_
          refine lv_iadd hx hb dX12_packs_66 ?_
          refine lv_topi (fun x_14 ex_14 => ?_)
          obtain rfl : x_14 = 15 := ex_14.trans (by decide)
          refine va_iald hx hb hK hP 2 0 rfl rfl (z_in (by decide) (by decide)) dX12_packs_67 ?_
          refine lv_topi (fun x_15 ex_15 => ?_)
          obtain rfl : x_10 = x_15 := ex_10.trans ex_15.symm
          refine lv_isub hx hb dX12_packs_68 ?_
          refine lv_topi (fun x_16 ex_16 => ?_)
          have zrx_7 := z_rng x_7
          have zrx_10 := z_rng x_10
          refine va_iast hx hb hK hP hD hS 3 0 rfl rfl (z_in (by omega) (by omega)) dX12_packs_69 (fun H locs hP hD hS => ?_)
          obtain ⟨g_17, eg_17⟩ : ∃ z : Nat → Int32, upd L15a3 L15l4.toNatClampNeg x_16 = z := ⟨_, rfl⟩
          have hP : va_P D vwCl [(mo, .inr (12, [.int v0, .ref m1, .ref m2, .ref m3, .ref m4, .ref m5, .int v6, .int v7, .int v8, .int v9, .int v10, .long v11, .int v12, .int v13, .int v14, .int v15, .ref m16, .ref m17, .ref m18, .ref m19, .ref m20, .ref m21, .ref m22, .ref m23, .int v24, .ref m25, .ref m26, .ref m27, .ref m28, .ref m29, .int v30, .ref m31, .ref m32, .ref m33, .int v34, .int v35, .int v36, .ref m37, .ref m38, .ref m39, .ref m40, .long v41])), (m17, .inl (k 0, 30, .inl f17)), (m20, .inl (k 0, 120, .inl f20)), (m37, .inl (k 0, 6, .inl (upd L15a3 L15l4.toNatClampNeg x_16))), (m38, .inl (k 0, 6, .inl L15a4))] H := hP
          have hD : va_D A [(mo, .inr (12, [.int v0, .ref m1, .ref m2, .ref m3, .ref m4, .ref m5, .int v6, .int v7, .int v8, .int v9, .int v10, .long v11, .int v12, .int v13, .int v14, .int v15, .ref m16, .ref m17, .ref m18, .ref m19, .ref m20, .ref m21, .ref m22, .ref m23, .int v24, .ref m25, .ref m26, .ref m27, .ref m28, .ref m29, .int v30, .ref m31, .ref m32, .ref m33, .int v34, .int v35, .int v36, .ref m37, .ref m38, .ref m39, .ref m40, .long v41])), (m17, .inl (k 0, 30, .inl f17)), (m20, .inl (k 0, 120, .inl f20)), (m37, .inl (k 0, 6, .inl (upd L15a3 L15l4.toNatClampNeg x_16))), (m38, .inl (k 0, 6, .inl L15a4))] := hD
          rw [eg_17] at hP hD
          refine lv_aload_n hx hb dX12_packs_70 rfl (lv_at hl 0 rfl) ?_
          refine va_get (D := D) (ci := 12) (v := .ref m38) (C := RX12) (T := TX12) (N := 42) hx hb hts iT_X12 hown hK hP 0 rfl rfl 38 (by decide) (hts _ tw_6_91) (fun _ h9 => h9) rfl dX12_packs_71 ?_
          refine lv_iload_n hx hb dX12_packs_74 rfl (lv_at hl 1 rfl) ?_
          refine lv_iload hx hb dX12_packs_75 (lv_at hl 4 rfl) ?_
          refine va_iast hx hb hK hP hD hS 4 0 rfl rfl (z_in (by decide) (by decide)) dX12_packs_77 (fun H locs hP hD hS => ?_)
          obtain ⟨g_18, eg_18⟩ : ∃ z : Nat → Int32, upd L15a4 3 L15l4 = z := ⟨_, rfl⟩
          have hP : va_P D vwCl [(mo, .inr (12, [.int v0, .ref m1, .ref m2, .ref m3, .ref m4, .ref m5, .int v6, .int v7, .int v8, .int v9, .int v10, .long v11, .int v12, .int v13, .int v14, .int v15, .ref m16, .ref m17, .ref m18, .ref m19, .ref m20, .ref m21, .ref m22, .ref m23, .int v24, .ref m25, .ref m26, .ref m27, .ref m28, .ref m29, .int v30, .ref m31, .ref m32, .ref m33, .int v34, .int v35, .int v36, .ref m37, .ref m38, .ref m39, .ref m40, .long v41])), (m17, .inl (k 0, 30, .inl f17)), (m20, .inl (k 0, 120, .inl f20)), (m37, .inl (k 0, 6, .inl g_17)), (m38, .inl (k 0, 6, .inl (upd L15a4 3 L15l4)))] H := hP
          have hD : va_D A [(mo, .inr (12, [.int v0, .ref m1, .ref m2, .ref m3, .ref m4, .ref m5, .int v6, .int v7, .int v8, .int v9, .int v10, .long v11, .int v12, .int v13, .int v14, .int v15, .ref m16, .ref m17, .ref m18, .ref m19, .ref m20, .ref m21, .ref m22, .ref m23, .int v24, .ref m25, .ref m26, .ref m27, .ref m28, .ref m29, .int v30, .ref m31, .ref m32, .ref m33, .int v34, .int v35, .int v36, .ref m37, .ref m38, .ref m39, .ref m40, .long v41])), (m17, .inl (k 0, 30, .inl f17)), (m20, .inl (k 0, 120, .inl f20)), (m37, .inl (k 0, 6, .inl g_17)), (m38, .inl (k 0, 6, .inl (upd L15a4 3 L15l4)))] := hD
          rw [eg_18] at hP hD
          refine lv_aload_n hx hb dX12_packs_78 rfl (lv_at hl 0 rfl) ?_
          refine lv_iload_n hx hb dX12_packs_79 rfl (lv_at hl 1 rfl) ?_
          refine lv_iconst (v := 1) hx hb dX12_packs_80 (by decide) ?_
          refine lv_iadd hx hb dX12_packs_81 ?_
          refine lv_topi (fun x_19 ex_19 => ?_)
          obtain rfl : x_19 = 4 := ex_19.trans (by decide)
          refine lv_iload hx hb dX12_packs_82 (lv_at hl 4 rfl) ?_
          refine lv_iload_n hx hb dX12_packs_84 rfl (lv_at hl 2 rfl) ?_
          refine lv_icmp_ne (tgt := 94) hx hb dX12_packs_85 (by decide) (fun h_20 => ?_) (fun h_20 => ?_)
          · skip
            have zh_20 : ¬ L15l4.toInt = p1.toInt := z_ne h_20
            refine lv_iload_n hx hb dX12_packs_94 rfl (lv_at hl 2 rfl) ?_
            refine lv_iload_n hx hb dX12_packs_95 rfl (lv_at hl 3 rfl) ?_
            obtain ⟨hPc, hDc, hFc⟩ := sub3 hP hD hS hA (ws' := [(mo, .inr (12, [.int v0, .ref m1, .ref m2, .ref m3, .ref m4, .ref m5, .int v6, .int v7, .int v8, .int v9, .int v10, .long v11, .int v12, .int v13, .int v14, .int v15, .ref m16, .ref m17, .ref m18, .ref m19, .ref m20, .ref m21, .ref m22, .ref m23, .int v24, .ref m25, .ref m26, .ref m27, .ref m28, .ref m29, .int v30, .ref m31, .ref m32, .ref m33, .int v34, .int v35, .int v36, .ref m37, .ref m38, .ref m39, .ref m40, .long v41])), (m17, .inl (k 0, 30, .inl f17)), (m20, .inl (k 0, 120, .inl f20)), (m37, .inl (k 0, 6, .inl g_17)), (m38, .inl (k 0, 6, .inl g_18))]) [0, 1, 2, 3, 4] (by decide +kernel) rfl
            refine va_calli (va_runV (C := RX12) (As := [.int 4, .int p1, .int p2]) (rest := []) ⟨hx, hb, hml, hown, hts⟩ (c_X12_packs_2 l D k mo p1 p2 v0 m1 m2 m3 m4 m5 v6 v7 v8 v9 v10 v11 v12 v13 v14 v15 m16 m17 m18 m19 m20 m21 m22 m23 v24 m25 m26 m27 m28 m29 v30 m31 m32 m33 v34 v35 v36 m37 m38 m39 m40 v41 f17 f20 g_17 g_18 H.size (show 0 ≤ p1.toInt ∧ p1.toInt ≤ 4 from by omega) (show 0 ≤ p2.toInt ∧ p2.toInt ≤ 6 from by omega) (show 0 ≤ v6.toInt ∧ v6.toInt ≤ 1000 from by omega) (show 0 ≤ v24.toInt ∧ v24.toInt ≤ 1023 from by omega) hp_f17_0 hp_f17_1 hp_f17_2 hp_f17_3 hp_f17_4 hp_f17_5 hp_f20_0 (show 4 ≤ (f17 3).toInt from by rw [show f17 3 = x_1 from ex_1.symm]; omega)) (cwV 3 hts (gV tw_8_146 tw_8_148 tw_p_90 tw_1_13 tw_8_149) rfl rfl rfl hdV_X12_packs ⟨Nat.le_of_ble_eq_true rfl, Nat.le_of_ble_eq_true rfl⟩) (cz_V hK hPc hDc hN (ci := 12) (q0 := 0) rfl rfl [.int 4, .int p1, .int p2]) rfl rfl hl.1 rfl (lv_room (Nat.le_of_ble_eq_true rfl)) dX12_packs_96 ⟨Nat.le_of_ble_eq_true rfl, Nat.le_of_ble_eq_true rfl⟩) hS (fun q _ h => hFc q h) hFc (fun r_21 uZ tZ H1 locs ht hvm hw hB hz1 hk1 hS => ?_)
            obtain ⟨o_22, o_23⟩ := uZ
            obtain ⟨hP1, hK1, hD1⟩ := hB
            rw [ht] at hP1
            obtain ⟨hP, hD⟩ := va_join (wr := []) (w1 := [(mo, .inr (12, [.int v0, .ref m1, .ref m2, .ref m3, .ref m4, .ref m5, .int v6, .int v7, .int v8, .int v9, .int v10, .long v11, .int v12, .int v13, .int v14, .int v15, .ref m16, .ref m17, .ref m18, .ref m19, .ref m20, .ref m21, .ref m22, .ref m23, .int v24, .ref m25, .ref m26, .ref m27, .ref m28, .ref m29, .int v30, .ref m31, .ref m32, .ref m33, .int v34, .int v35, .int v36, .ref m37, .ref m38, .ref m39, .ref m40, .long v41])), (m17, .inl (k 0, 30, .inl f17)), (m20, .inl (k 0, 120, .inl f20)), (m37, .inl (k 0, 6, .inl o_22)), (m38, .inl (k 0, 6, .inl o_23))]) hP hD [0, 1, 2, 3, 4] [] rfl rfl (by decide +kernel) (by decide +kernel) hk1 hFc hP1 hD1
            clear hK1 hP1 hD1 hPc hDc hFc
            clear hk1 hz1 ht hvm
            have hP : va_P D vwCl [(mo, .inr (12, [.int v0, .ref m1, .ref m2, .ref m3, .ref m4, .ref m5, .int v6, .int v7, .int v8, .int v9, .int v10, .long v11, .int v12, .int v13, .int v14, .int v15, .ref m16, .ref m17, .ref m18, .ref m19, .ref m20, .ref m21, .ref m22, .ref m23, .int v24, .ref m25, .ref m26, .ref m27, .ref m28, .ref m29, .int v30, .ref m31, .ref m32, .ref m33, .int v34, .int v35, .int v36, .ref m37, .ref m38, .ref m39, .ref m40, .long v41])), (m17, .inl (k 0, 30, .inl f17)), (m20, .inl (k 0, 120, .inl f20)), (m37, .inl (k 0, 6, .inl o_22)), (m38, .inl (k 0, 6, .inl o_23))] H1 := hP
            have hD : va_D A [(mo, .inr (12, [.int v0, .ref m1, .ref m2, .ref m3, .ref m4, .ref m5, .int v6, .int v7, .int v8, .int v9, .int v10, .long v11, .int v12, .int v13, .int v14, .int v15, .ref m16, .ref m17, .ref m18, .ref m19, .ref m20, .ref m21, .ref m22, .ref m23, .int v24, .ref m25, .ref m26, .ref m27, .ref m28, .ref m29, .int v30, .ref m31, .ref m32, .ref m33, .int v34, .int v35, .int v36, .ref m37, .ref m38, .ref m39, .ref m40, .long v41])), (m17, .inl (k 0, 30, .inl f17)), (m20, .inl (k 0, 120, .inl f20)), (m37, .inl (k 0, 6, .inl o_22)), (m38, .inl (k 0, 6, .inl o_23))] := hD
            generalize H1 = H at hP hS ⊢
            have hw_24 : (0 ≤ r_21.toInt ∧ r_21.toInt ≤ 1) := hw
            have hw_25 := hw_24
            clear hw
            refine lv_if_eq (tgt := 104) hx hb dX12_packs_99 (by decide) (fun h_26 => ?_) (fun h_26 => ?_)
            · skip
              have zh_26 : r_21.toInt = 0 := z_eq h_26
              refine lv_aload_n hx hb dX12_packs_104 rfl (lv_at hl 0 rfl) ?_
              refine va_get (D := D) (ci := 12) (v := .ref m37) (C := RX12) (T := TX12) (N := 42) hx hb hts iT_X12 hown hK hP 0 rfl rfl 37 (by decide) (hts _ tw_6_90) (fun _ h9 => h9) rfl dX12_packs_105 ?_
              refine lv_iload hx hb dX12_packs_108 (lv_at hl 4 rfl) ?_
              refine lv_dup2_11 hx hb dX12_packs_110 rfl rfl ?_
              refine va_iald hx hb hK hP 3 0 rfl rfl (z_in (by omega) (by omega)) dX12_packs_111 ?_
              refine lv_topi (fun x_27 ex_27 => ?_)
              refine lv_aload_n hx hb dX12_packs_112 rfl (lv_at hl 0 rfl) ?_
              refine va_get (D := D) (ci := 12) (v := .ref m20) (C := RX12) (T := TX12) (N := 42) hx hb hts iT_X12 hown hK hP 0 rfl rfl 20 (by decide) (hts _ tw_6_73) (fun _ h9 => h9) rfl dX12_packs_113 ?_
              refine lv_iconst (v := 4) hx hb dX12_packs_116 (by decide) ?_
              refine lv_iload_n hx hb dX12_packs_117 rfl (lv_at hl 1 rfl) ?_
              refine lv_imul hx hb dX12_packs_118 ?_
              refine lv_topi (fun x_28 ex_28 => ?_)
              obtain rfl : x_28 = 12 := ex_28.trans (by decide)
              refine lv_iconst (v := 3) hx hb dX12_packs_119 (by decide) ?_
              refine lv_iadd hx hb dX12_packs_120 ?_
              refine lv_topi (fun x_29 ex_29 => ?_)
              obtain rfl : x_29 = 15 := ex_29.trans (by decide)
              refine va_iald hx hb hK hP 2 0 rfl rfl (z_in (by decide) (by decide)) dX12_packs_121 ?_
              refine lv_topi (fun x_30 ex_30 => ?_)
              obtain rfl : x_10 = x_30 := ex_10.trans ex_30.symm
              refine lv_iadd hx hb dX12_packs_122 ?_
              refine lv_topi (fun x_31 ex_31 => ?_)
              have zrx_27 := z_rng x_27
              refine va_iast hx hb hK hP hD hS 3 0 rfl rfl (z_in (by omega) (by omega)) dX12_packs_123 (fun H locs hP hD hS => ?_)
              obtain ⟨g_32, eg_32⟩ : ∃ z : Nat → Int32, upd o_22 L15l4.toNatClampNeg x_31 = z := ⟨_, rfl⟩
              have hP : va_P D vwCl [(mo, .inr (12, [.int v0, .ref m1, .ref m2, .ref m3, .ref m4, .ref m5, .int v6, .int v7, .int v8, .int v9, .int v10, .long v11, .int v12, .int v13, .int v14, .int v15, .ref m16, .ref m17, .ref m18, .ref m19, .ref m20, .ref m21, .ref m22, .ref m23, .int v24, .ref m25, .ref m26, .ref m27, .ref m28, .ref m29, .int v30, .ref m31, .ref m32, .ref m33, .int v34, .int v35, .int v36, .ref m37, .ref m38, .ref m39, .ref m40, .long v41])), (m17, .inl (k 0, 30, .inl f17)), (m20, .inl (k 0, 120, .inl f20)), (m37, .inl (k 0, 6, .inl (upd o_22 L15l4.toNatClampNeg x_31))), (m38, .inl (k 0, 6, .inl o_23))] H := hP
              have hD : va_D A [(mo, .inr (12, [.int v0, .ref m1, .ref m2, .ref m3, .ref m4, .ref m5, .int v6, .int v7, .int v8, .int v9, .int v10, .long v11, .int v12, .int v13, .int v14, .int v15, .ref m16, .ref m17, .ref m18, .ref m19, .ref m20, .ref m21, .ref m22, .ref m23, .int v24, .ref m25, .ref m26, .ref m27, .ref m28, .ref m29, .int v30, .ref m31, .ref m32, .ref m33, .int v34, .int v35, .int v36, .ref m37, .ref m38, .ref m39, .ref m40, .long v41])), (m17, .inl (k 0, 30, .inl f17)), (m20, .inl (k 0, 120, .inl f20)), (m37, .inl (k 0, 6, .inl (upd o_22 L15l4.toNatClampNeg x_31))), (m38, .inl (k 0, 6, .inl o_23))] := hD
              rw [eg_32] at hP hD
              obtain ⟨x_33, ex_33⟩ : ∃ y : Int32, y = L15l4 + 1 := ⟨_, rfl⟩
              have zx_33 : x_33.toInt = L15l4.toInt + 1 := by rw [ex_33]; exact z_add rfl rfl (by omega) (by omega)
              refine lv_iinc (v := x_33) (lv' := [(4, .int x_33), (0, .ref mo), (1, .int 3), (2, .int p1), (3, .int p2)]) hx hb dX12_packs_124 hl (k := 4) rfl (by rw [ex_33]; rfl) (by decide) rfl (fun ls hl => ?_)
              refine lv_goto (tgt := 15) hx hb dX12_packs_127 (by decide) ?_
              exact ih_3 _ _ _ _ (by omega) ⟨x_33, g_32, o_23, rfl, (show 0 ≤ x_33.toInt ∧ x_33.toInt ≤ 4 from by omega), hP.sub (ws' := [(mo, .inr (12, [.int v0, .ref m1, .ref m2, .ref m3, .ref m4, .ref m5, .int v6, .int v7, .int v8, .int v9, .int v10, .long v11, .int v12, .int v13, .int v14, .int v15, .ref m16, .ref m17, .ref m18, .ref m19, .ref m20, .ref m21, .ref m22, .ref m23, .int v24, .ref m25, .ref m26, .ref m27, .ref m28, .ref m29, .int v30, .ref m31, .ref m32, .ref m33, .int v34, .int v35, .int v36, .ref m37, .ref m38, .ref m39, .ref m40, .long v41])), (m17, .inl (k 0, 30, .inl f17)), (m20, .inl (k 0, 120, .inl f20)), (m37, .inl (k 0, 6, .inl g_32)), (m38, .inl (k 0, 6, .inl o_23))]) [0, 1, 2, 3, 4] rfl, hD.sub (ws' := [(mo, .inr (12, [.int v0, .ref m1, .ref m2, .ref m3, .ref m4, .ref m5, .int v6, .int v7, .int v8, .int v9, .int v10, .long v11, .int v12, .int v13, .int v14, .int v15, .ref m16, .ref m17, .ref m18, .ref m19, .ref m20, .ref m21, .ref m22, .ref m23, .int v24, .ref m25, .ref m26, .ref m27, .ref m28, .ref m29, .int v30, .ref m31, .ref m32, .ref m33, .int v34, .int v35, .int v36, .ref m37, .ref m38, .ref m39, .ref m40, .long v41])), (m17, .inl (k 0, 30, .inl f17)), (m20, .inl (k 0, 120, .inl f20)), (m37, .inl (k 0, 6, .inl g_32)), (m38, .inl (k 0, 6, .inl o_23))]) [0, 1, 2, 3, 4] (by decide +kernel) rfl, hS, lv_sub hl [1, 2, 3, 4, 0] rfl⟩
            · skip
              have zh_26 : ¬ r_21.toInt = 0 := z_ne h_26
              refine lv_iconst (v := 1) hx hb dX12_packs_102 (by decide) ?_
              obtain ⟨hP9, hD9⟩ := sub2 hP hD (ws' := [(mo, .inr (12, [.int v0, .ref m1, .ref m2, .ref m3, .ref m4, .ref m5, .int v6, .int v7, .int v8, .int v9, .int v10, .long v11, .int v12, .int v13, .int v14, .int v15, .ref m16, .ref m17, .ref m18, .ref m19, .ref m20, .ref m21, .ref m22, .ref m23, .int v24, .ref m25, .ref m26, .ref m27, .ref m28, .ref m29, .int v30, .ref m31, .ref m32, .ref m33, .int v34, .int v35, .int v36, .ref m37, .ref m38, .ref m39, .ref m40, .long v41])), (m17, .inl (k 0, 30, .inl f17)), (m20, .inl (k 0, 120, .inl f20)), (m37, .inl (k 0, 6, .inl o_22)), (m38, .inl (k 0, 6, .inl o_23))]) [0, 1, 2, 3, 4] (by decide +kernel) rfl
              exact W.zret (v := 1) hx hb hr (by decide) (fun tZ ht hW => ⟨⟨1, (o_22, o_23), rfl, (show 0 ≤ 1 ∧ 1 ≤ 1 from by omega), by rw [ht]; exact hP9, va_K.moved hW.alike hK, hD9⟩, hS.F ht⟩) hS.2.2 dX12_packs_103
          · skip
            have zh_20 : L15l4.toInt = p1.toInt := z_eq h_20
            refine lv_iload_n hx hb dX12_packs_88 rfl (lv_at hl 2 rfl) ?_
            refine lv_iconst (v := 1) hx hb dX12_packs_89 (by decide) ?_
            refine lv_iadd hx hb dX12_packs_90 ?_
            refine lv_topi (fun x_34 ex_34 => ?_)
            have zx_34 : x_34.toInt = p1.toInt + 1 := by rw [ex_34]; exact z_add rfl rfl (by omega) (by omega)
            refine lv_goto (tgt := 95) hx hb dX12_packs_91 (by decide) ?_
            refine lv_iload_n hx hb dX12_packs_95 rfl (lv_at hl 3 rfl) ?_
            obtain ⟨hPc, hDc, hFc⟩ := sub3 hP hD hS hA (ws' := [(mo, .inr (12, [.int v0, .ref m1, .ref m2, .ref m3, .ref m4, .ref m5, .int v6, .int v7, .int v8, .int v9, .int v10, .long v11, .int v12, .int v13, .int v14, .int v15, .ref m16, .ref m17, .ref m18, .ref m19, .ref m20, .ref m21, .ref m22, .ref m23, .int v24, .ref m25, .ref m26, .ref m27, .ref m28, .ref m29, .int v30, .ref m31, .ref m32, .ref m33, .int v34, .int v35, .int v36, .ref m37, .ref m38, .ref m39, .ref m40, .long v41])), (m17, .inl (k 0, 30, .inl f17)), (m20, .inl (k 0, 120, .inl f20)), (m37, .inl (k 0, 6, .inl g_17)), (m38, .inl (k 0, 6, .inl g_18))]) [0, 1, 2, 3, 4] (by decide +kernel) rfl
            refine va_calli (va_runV (C := RX12) (As := [.int 4, .int x_34, .int p2]) (rest := []) ⟨hx, hb, hml, hown, hts⟩ (c_X12_packs_2 l D k mo x_34 p2 v0 m1 m2 m3 m4 m5 v6 v7 v8 v9 v10 v11 v12 v13 v14 v15 m16 m17 m18 m19 m20 m21 m22 m23 v24 m25 m26 m27 m28 m29 v30 m31 m32 m33 v34 v35 v36 m37 m38 m39 m40 v41 f17 f20 g_17 g_18 H.size (show 0 ≤ x_34.toInt ∧ x_34.toInt ≤ 4 from by omega) (show 0 ≤ p2.toInt ∧ p2.toInt ≤ 6 from by omega) (show 0 ≤ v6.toInt ∧ v6.toInt ≤ 1000 from by omega) (show 0 ≤ v24.toInt ∧ v24.toInt ≤ 1023 from by omega) hp_f17_0 hp_f17_1 hp_f17_2 hp_f17_3 hp_f17_4 hp_f17_5 hp_f20_0 (show 4 ≤ (f17 3).toInt from by rw [show f17 3 = x_1 from ex_1.symm]; omega)) (cwV 3 hts (gV tw_8_146 tw_8_148 tw_p_90 tw_1_13 tw_8_149) rfl rfl rfl hdV_X12_packs ⟨Nat.le_of_ble_eq_true rfl, Nat.le_of_ble_eq_true rfl⟩) (cz_V hK hPc hDc hN (ci := 12) (q0 := 0) rfl rfl [.int 4, .int x_34, .int p2]) rfl rfl hl.1 rfl (lv_room (Nat.le_of_ble_eq_true rfl)) dX12_packs_96 ⟨Nat.le_of_ble_eq_true rfl, Nat.le_of_ble_eq_true rfl⟩) hS (fun q _ h => hFc q h) hFc (fun r_35 uZ tZ H1 locs ht hvm hw hB hz1 hk1 hS => ?_)
            obtain ⟨o_36, o_37⟩ := uZ
            obtain ⟨hP1, hK1, hD1⟩ := hB
            rw [ht] at hP1
            obtain ⟨hP, hD⟩ := va_join (wr := []) (w1 := [(mo, .inr (12, [.int v0, .ref m1, .ref m2, .ref m3, .ref m4, .ref m5, .int v6, .int v7, .int v8, .int v9, .int v10, .long v11, .int v12, .int v13, .int v14, .int v15, .ref m16, .ref m17, .ref m18, .ref m19, .ref m20, .ref m21, .ref m22, .ref m23, .int v24, .ref m25, .ref m26, .ref m27, .ref m28, .ref m29, .int v30, .ref m31, .ref m32, .ref m33, .int v34, .int v35, .int v36, .ref m37, .ref m38, .ref m39, .ref m40, .long v41])), (m17, .inl (k 0, 30, .inl f17)), (m20, .inl (k 0, 120, .inl f20)), (m37, .inl (k 0, 6, .inl o_36)), (m38, .inl (k 0, 6, .inl o_37))]) hP hD [0, 1, 2, 3, 4] [] rfl rfl (by decide +kernel) (by decide +kernel) hk1 hFc hP1 hD1
            clear hK1 hP1 hD1 hPc hDc hFc
            clear hk1 hz1 ht hvm
            have hP : va_P D vwCl [(mo, .inr (12, [.int v0, .ref m1, .ref m2, .ref m3, .ref m4, .ref m5, .int v6, .int v7, .int v8, .int v9, .int v10, .long v11, .int v12, .int v13, .int v14, .int v15, .ref m16, .ref m17, .ref m18, .ref m19, .ref m20, .ref m21, .ref m22, .ref m23, .int v24, .ref m25, .ref m26, .ref m27, .ref m28, .ref m29, .int v30, .ref m31, .ref m32, .ref m33, .int v34, .int v35, .int v36, .ref m37, .ref m38, .ref m39, .ref m40, .long v41])), (m17, .inl (k 0, 30, .inl f17)), (m20, .inl (k 0, 120, .inl f20)), (m37, .inl (k 0, 6, .inl o_36)), (m38, .inl (k 0, 6, .inl o_37))] H1 := hP
            have hD : va_D A [(mo, .inr (12, [.int v0, .ref m1, .ref m2, .ref m3, .ref m4, .ref m5, .int v6, .int v7, .int v8, .int v9, .int v10, .long v11, .int v12, .int v13, .int v14, .int v15, .ref m16, .ref m17, .ref m18, .ref m19, .ref m20, .ref m21, .ref m22, .ref m23, .int v24, .ref m25, .ref m26, .ref m27, .ref m28, .ref m29, .int v30, .ref m31, .ref m32, .ref m33, .int v34, .int v35, .int v36, .ref m37, .ref m38, .ref m39, .ref m40, .long v41])), (m17, .inl (k 0, 30, .inl f17)), (m20, .inl (k 0, 120, .inl f20)), (m37, .inl (k 0, 6, .inl o_36)), (m38, .inl (k 0, 6, .inl o_37))] := hD
            generalize H1 = H at hP hS ⊢
            have hw_38 : (0 ≤ r_35.toInt ∧ r_35.toInt ≤ 1) := hw
            have hw_39 := hw_38
            clear hw
            refine lv_if_eq (tgt := 104) hx hb dX12_packs_99 (by decide) (fun h_40 => ?_) (fun h_40 => ?_)
            · skip
              have zh_40 : r_35.toInt = 0 := z_eq h_40
              refine lv_aload_n hx hb dX12_packs_104 rfl (lv_at hl 0 rfl) ?_
              refine va_get (D := D) (ci := 12) (v := .ref m37) (C := RX12) (T := TX12) (N := 42) hx hb hts iT_X12 hown hK hP 0 rfl rfl 37 (by decide) (hts _ tw_6_90) (fun _ h9 => h9) rfl dX12_packs_105 ?_
              refine lv_iload hx hb dX12_packs_108 (lv_at hl 4 rfl) ?_
              refine lv_dup2_11 hx hb dX12_packs_110 rfl rfl ?_
              refine va_iald hx hb hK hP 3 0 rfl rfl (z_in (by omega) (by omega)) dX12_packs_111 ?_
              refine lv_topi (fun x_41 ex_41 => ?_)
              refine lv_aload_n hx hb dX12_packs_112 rfl (lv_at hl 0 rfl) ?_
              refine va_get (D := D) (ci := 12) (v := .ref m20) (C := RX12) (T := TX12) (N := 42) hx hb hts iT_X12 hown hK hP 0 rfl rfl 20 (by decide) (hts _ tw_6_73) (fun _ h9 => h9) rfl dX12_packs_113 ?_
              refine lv_iconst (v := 4) hx hb dX12_packs_116 (by decide) ?_
              refine lv_iload_n hx hb dX12_packs_117 rfl (lv_at hl 1 rfl) ?_
              refine lv_imul hx hb dX12_packs_118 ?_
              refine lv_topi (fun x_42 ex_42 => ?_)
              obtain rfl : x_42 = 12 := ex_42.trans (by decide)
              refine lv_iconst (v := 3) hx hb dX12_packs_119 (by decide) ?_
              refine lv_iadd hx hb dX12_packs_120 ?_
              refine lv_topi (fun x_43 ex_43 => ?_)
              obtain rfl : x_43 = 15 := ex_43.trans (by decide)
              refine va_iald hx hb hK hP 2 0 rfl rfl (z_in (by decide) (by decide)) dX12_packs_121 ?_
              refine lv_topi (fun x_44 ex_44 => ?_)
              obtain rfl : x_10 = x_44 := ex_10.trans ex_44.symm
              refine lv_iadd hx hb dX12_packs_122 ?_
              refine lv_topi (fun x_45 ex_45 => ?_)
              have zrx_41 := z_rng x_41
              refine va_iast hx hb hK hP hD hS 3 0 rfl rfl (z_in (by omega) (by omega)) dX12_packs_123 (fun H locs hP hD hS => ?_)
              obtain ⟨g_46, eg_46⟩ : ∃ z : Nat → Int32, upd o_36 L15l4.toNatClampNeg x_45 = z := ⟨_, rfl⟩
              have hP : va_P D vwCl [(mo, .inr (12, [.int v0, .ref m1, .ref m2, .ref m3, .ref m4, .ref m5, .int v6, .int v7, .int v8, .int v9, .int v10, .long v11, .int v12, .int v13, .int v14, .int v15, .ref m16, .ref m17, .ref m18, .ref m19, .ref m20, .ref m21, .ref m22, .ref m23, .int v24, .ref m25, .ref m26, .ref m27, .ref m28, .ref m29, .int v30, .ref m31, .ref m32, .ref m33, .int v34, .int v35, .int v36, .ref m37, .ref m38, .ref m39, .ref m40, .long v41])), (m17, .inl (k 0, 30, .inl f17)), (m20, .inl (k 0, 120, .inl f20)), (m37, .inl (k 0, 6, .inl (upd o_36 L15l4.toNatClampNeg x_45))), (m38, .inl (k 0, 6, .inl o_37))] H := hP
              have hD : va_D A [(mo, .inr (12, [.int v0, .ref m1, .ref m2, .ref m3, .ref m4, .ref m5, .int v6, .int v7, .int v8, .int v9, .int v10, .long v11, .int v12, .int v13, .int v14, .int v15, .ref m16, .ref m17, .ref m18, .ref m19, .ref m20, .ref m21, .ref m22, .ref m23, .int v24, .ref m25, .ref m26, .ref m27, .ref m28, .ref m29, .int v30, .ref m31, .ref m32, .ref m33, .int v34, .int v35, .int v36, .ref m37, .ref m38, .ref m39, .ref m40, .long v41])), (m17, .inl (k 0, 30, .inl f17)), (m20, .inl (k 0, 120, .inl f20)), (m37, .inl (k 0, 6, .inl (upd o_36 L15l4.toNatClampNeg x_45))), (m38, .inl (k 0, 6, .inl o_37))] := hD
              rw [eg_46] at hP hD
              obtain ⟨x_47, ex_47⟩ : ∃ y : Int32, y = L15l4 + 1 := ⟨_, rfl⟩
              have zx_47 : x_47.toInt = L15l4.toInt + 1 := by rw [ex_47]; exact z_add rfl rfl (by omega) (by omega)
              refine lv_iinc (v := x_47) (lv' := [(4, .int x_47), (0, .ref mo), (1, .int 3), (2, .int p1), (3, .int p2)]) hx hb dX12_packs_124 hl (k := 4) rfl (by rw [ex_47]; rfl) (by decide) rfl (fun ls hl => ?_)
              refine lv_goto (tgt := 15) hx hb dX12_packs_127 (by decide) ?_
              exact ih_3 _ _ _ _ (by omega) ⟨x_47, g_46, o_37, rfl, (show 0 ≤ x_47.toInt ∧ x_47.toInt ≤ 4 from by omega), hP.sub (ws' := [(mo, .inr (12, [.int v0, .ref m1, .ref m2, .ref m3, .ref m4, .ref m5, .int v6, .int v7, .int v8, .int v9, .int v10, .long v11, .int v12, .int v13, .int v14, .int v15, .ref m16, .ref m17, .ref m18, .ref m19, .ref m20, .ref m21, .ref m22, .ref m23, .int v24, .ref m25, .ref m26, .ref m27, .ref m28, .ref m29, .int v30, .ref m31, .ref m32, .ref m33, .int v34, .int v35, .int v36, .ref m37, .ref m38, .ref m39, .ref m40, .long v41])), (m17, .inl (k 0, 30, .inl f17)), (m20, .inl (k 0, 120, .inl f20)), (m37, .inl (k 0, 6, .inl g_46)), (m38, .inl (k 0, 6, .inl o_37))]) [0, 1, 2, 3, 4] rfl, hD.sub (ws' := [(mo, .inr (12, [.int v0, .ref m1, .ref m2, .ref m3, .ref m4, .ref m5, .int v6, .int v7, .int v8, .int v9, .int v10, .long v11, .int v12, .int v13, .int v14, .int v15, .ref m16, .ref m17, .ref m18, .ref m19, .ref m20, .ref m21, .ref m22, .ref m23, .int v24, .ref m25, .ref m26, .ref m27, .ref m28, .ref m29, .int v30, .ref m31, .ref m32, .ref m33, .int v34, .int v35, .int v36, .ref m37, .ref m38, .ref m39, .ref m40, .long v41])), (m17, .inl (k 0, 30, .inl f17)), (m20, .inl (k 0, 120, .inl f20)), (m37, .inl (k 0, 6, .inl g_46)), (m38, .inl (k 0, 6, .inl o_37))]) [0, 1, 2, 3, 4] (by decide +kernel) rfl, hS, lv_sub hl [1, 2, 3, 4, 0] rfl⟩
            · skip
              have zh_40 : ¬ r_35.toInt = 0 := z_ne h_40
              refine lv_iconst (v := 1) hx hb dX12_packs_102 (by decide) ?_
              obtain ⟨hP9, hD9⟩ := sub2 hP hD (ws' := [(mo, .inr (12, [.int v0, .ref m1, .ref m2, .ref m3, .ref m4, .ref m5, .int v6, .int v7, .int v8, .int v9, .int v10, .long v11, .int v12, .int v13, .int v14, .int v15, .ref m16, .ref m17, .ref m18, .ref m19, .ref m20, .ref m21, .ref m22, .ref m23, .int v24, .ref m25, .ref m26, .ref m27, .ref m28, .ref m29, .int v30, .ref m31, .ref m32, .ref m33, .int v34, .int v35, .int v36, .ref m37, .ref m38, .ref m39, .ref m40, .long v41])), (m17, .inl (k 0, 30, .inl f17)), (m20, .inl (k 0, 120, .inl f20)), (m37, .inl (k 0, 6, .inl o_36)), (m38, .inl (k 0, 6, .inl o_37))]) [0, 1, 2, 3, 4] (by decide +kernel) rfl
              exact W.zret (v := 1) hx hb hr (by decide) (fun tZ ht hW => ⟨⟨1, (o_36, o_37), rfl, (show 0 ≤ 1 ∧ 1 ≤ 1 from by omega), by rw [ht]; exact hP9, va_K.moved hW.alike hK, hD9⟩, hS.F ht⟩) hS.2.2 dX12_packs_103
        · skip
          have zh_11 : x_7.toInt < x_10.toInt := z_nle h_11
          refine lv_goto (tgt := 124) hx hb dX12_packs_47 (by decide) ?_
          obtain ⟨x_48, ex_48⟩ : ∃ y : Int32, y = L15l4 + 1 := ⟨_, rfl⟩
          have zx_48 : x_48.toInt = L15l4.toInt + 1 := by rw [ex_48]; exact z_add rfl rfl (by omega) (by omega)
          refine lv_iinc (v := x_48) (lv' := [(4, .int x_48), (0, .ref mo), (1, .int 3), (2, .int p1), (3, .int p2)]) hx hb dX12_packs_124 hl (k := 4) rfl (by rw [ex_48]; rfl) (by decide) rfl (fun ls hl => ?_)
          refine lv_goto (tgt := 15) hx hb dX12_packs_127 (by decide) ?_
          exact ih_3 _ _ _ _ (by omega) ⟨x_48, L15a3, L15a4, rfl, (show 0 ≤ x_48.toInt ∧ x_48.toInt ≤ 4 from by omega), hP.sub (ws' := [(mo, .inr (12, [.int v0, .ref m1, .ref m2, .ref m3, .ref m4, .ref m5, .int v6, .int v7, .int v8, .int v9, .int v10, .long v11, .int v12, .int v13, .int v14, .int v15, .ref m16, .ref m17, .ref m18, .ref m19, .ref m20, .ref m21, .ref m22, .ref m23, .int v24, .ref m25, .ref m26, .ref m27, .ref m28, .ref m29, .int v30, .ref m31, .ref m32, .ref m33, .int v34, .int v35, .int v36, .ref m37, .ref m38, .ref m39, .ref m40, .long v41])), (m17, .inl (k 0, 30, .inl f17)), (m20, .inl (k 0, 120, .inl f20)), (m37, .inl (k 0, 6, .inl L15a3)), (m38, .inl (k 0, 6, .inl L15a4))]) [0, 1, 2, 3, 4] rfl, hD.sub (ws' := [(mo, .inr (12, [.int v0, .ref m1, .ref m2, .ref m3, .ref m4, .ref m5, .int v6, .int v7, .int v8, .int v9, .int v10, .long v11, .int v12, .int v13, .int v14, .int v15, .ref m16, .ref m17, .ref m18, .ref m19, .ref m20, .ref m21, .ref m22, .ref m23, .int v24, .ref m25, .ref m26, .ref m27, .ref m28, .ref m29, .int v30, .ref m31, .ref m32, .ref m33, .int v34, .int v35, .int v36, .ref m37, .ref m38, .ref m39, .ref m40, .long v41])), (m17, .inl (k 0, 30, .inl f17)), (m20, .inl (k 0, 120, .inl f20)), (m37, .inl (k 0, 6, .inl L15a3)), (m38, .inl (k 0, 6, .inl L15a4))]) [0, 1, 2, 3, 4] (by decide +kernel) rfl, hS, lv_sub hl [1, 2, 3, 4, 0] rfl⟩
  · skip
    have zh_2 : 3 = x_1.toInt := z_eq h_2
    refine lv_iconst (v := 1) hx hb dX12_packs_10 (by decide) ?_
    obtain ⟨hP9, hD9⟩ := sub2 hP hD (ws' := [(mo, .inr (12, [.int v0, .ref m1, .ref m2, .ref m3, .ref m4, .ref m5, .int v6, .int v7, .int v8, .int v9, .int v10, .long v11, .int v12, .int v13, .int v14, .int v15, .ref m16, .ref m17, .ref m18, .ref m19, .ref m20, .ref m21, .ref m22, .ref m23, .int v24, .ref m25, .ref m26, .ref m27, .ref m28, .ref m29, .int v30, .ref m31, .ref m32, .ref m33, .int v34, .int v35, .int v36, .ref m37, .ref m38, .ref m39, .ref m40, .long v41])), (m17, .inl (k 0, 30, .inl f17)), (m20, .inl (k 0, 120, .inl f20)), (m37, .inl (k 0, 6, .inl f37)), (m38, .inl (k 0, 6, .inl f38))]) [0, 1, 2, 3, 4] (by decide +kernel) rfl
    exact W.zret (v := 1) hx hb hr (by decide) (fun tZ ht hW => ⟨⟨1, (f37, f38), rfl, (show 0 ≤ 1 ∧ 1 ≤ 1 from by omega), by rw [ht]; exact hP9, va_K.moved hW.alike hK, hD9⟩, hS.F ht⟩) hS.2.2 dX12_packs_11
set_option maxHeartbeats 4000000 in
set_option maxRecDepth 100000 in
theorem c_X12_packs_4 (l : Launch) (D : va_G) (k : Nat → ClassId) (mo : Nat) (p1 : Int32) (p2 : Int32) (v0 : Int32) (m1 : Nat) (m2 : Nat) (m3 : Nat) (m4 : Nat) (m5 : Nat) (v6 : Int32) (v7 : Int32) (v8 : Int32) (v9 : Int32) (v10 : Int32) (v11 : Int64) (v12 : Int32) (v13 : Int32) (v14 : Int32) (v15 : Int32) (m16 : Nat) (m17 : Nat) (m18 : Nat) (m19 : Nat) (m20 : Nat) (m21 : Nat) (m22 : Nat) (m23 : Nat) (v24 : Int32) (m25 : Nat) (m26 : Nat) (m27 : Nat) (m28 : Nat) (m29 : Nat) (v30 : Int32) (m31 : Nat) (m32 : Nat) (m33 : Nat) (v34 : Int32) (v35 : Int32) (v36 : Int32) (m37 : Nat) (m38 : Nat) (m39 : Nat) (m40 : Nat) (v41 : Int64) (f17 : Nat → Int32) (f20 : Nat → Int32) (f37 : Nat → Int32) (f38 : Nat → Int32) (sz : Nat) (h_p1 : 0 ≤ p1.toInt ∧ p1.toInt ≤ 2) (h_p2 : 0 ≤ p2.toInt ∧ p2.toInt ≤ 6) (h_v6 : 0 ≤ v6.toInt ∧ v6.toInt ≤ 1000) (h_v24 : 0 ≤ v24.toInt ∧ v24.toInt ≤ 1023) (hp_f17_0 : PR 30 6 0 0 8 f17) (hp_f17_1 : PR 30 6 1 0 10 f17) (hp_f17_2 : PR 30 6 2 0 4 f17) (hp_f17_3 : PR 30 6 3 0 6 f17) (hp_f17_4 : PR 30 6 4 0 2 f17) (hp_f17_5 : PR 30 6 5 0 40 f17) (hp_f20_0 : PR 120 4 0 0 7 f20) (hh : 2 ≤ (f17 3).toInt) : Met l yX12_packs (ww yX12_packs cX12_packs 5 (some .boolean)) ({ frames := 4, cells := 0, slots := 0, locals := 96 }) (Pre0 D k [(mo, .inr (12, [.int v0, .ref m1, .ref m2, .ref m3, .ref m4, .ref m5, .int v6, .int v7, .int v8, .int v9, .int v10, .long v11, .int v12, .int v13, .int v14, .int v15, .ref m16, .ref m17, .ref m18, .ref m19, .ref m20, .ref m21, .ref m22, .ref m23, .int v24, .ref m25, .ref m26, .ref m27, .ref m28, .ref m29, .int v30, .ref m31, .ref m32, .ref m33, .int v34, .int v35, .int v36, .ref m37, .ref m38, .ref m39, .ref m40, .long v41])), (m17, .inl (k 0, 30, .inl f17)), (m20, .inl (k 0, 120, .inl f20)), (m37, .inl (k 0, 6, .inl f37)), (m38, .inl (k 0, 6, .inl f38))] sz [.ref mo, .int 2, .int p1, .int p2]) (va_Qi (fun (r : Int32) (u : (Nat → Int32) × (Nat → Int32)) => match u with | (f37z, f38z) => (0 ≤ r.toInt ∧ r.toInt ≤ 1)) (fun (u : (Nat → Int32) × (Nat → Int32)) tZ => match u with | (f37z, f38z) => Bw D k (va_A [(mo, .inr (12, [.int v0, .ref m1, .ref m2, .ref m3, .ref m4, .ref m5, .int v6, .int v7, .int v8, .int v9, .int v10, .long v11, .int v12, .int v13, .int v14, .int v15, .ref m16, .ref m17, .ref m18, .ref m19, .ref m20, .ref m21, .ref m22, .ref m23, .int v24, .ref m25, .ref m26, .ref m27, .ref m28, .ref m29, .int v30, .ref m31, .ref m32, .ref m33, .int v34, .int v35, .int v36, .ref m37, .ref m38, .ref m39, .ref m40, .long v41])), (m17, .inl (k 0, 30, .inl f17)), (m20, .inl (k 0, 120, .inl f20)), (m37, .inl (k 0, 6, .inl f37)), (m38, .inl (k 0, 6, .inl f38))] sz) [(mo, .inr (12, [.int v0, .ref m1, .ref m2, .ref m3, .ref m4, .ref m5, .int v6, .int v7, .int v8, .int v9, .int v10, .long v11, .int v12, .int v13, .int v14, .int v15, .ref m16, .ref m17, .ref m18, .ref m19, .ref m20, .ref m21, .ref m22, .ref m23, .int v24, .ref m25, .ref m26, .ref m27, .ref m28, .ref m29, .int v30, .ref m31, .ref m32, .ref m33, .int v34, .int v35, .int v36, .ref m37, .ref m38, .ref m39, .ref m40, .long v41])), (m17, .inl (k 0, 30, .inl f17)), (m20, .inl (k 0, 120, .inl f20)), (m37, .inl (k 0, 6, .inl f37z)), (m38, .inl (k 0, 6, .inl f38z))] tZ) (va_A [(mo, .inr (12, [.int v0, .ref m1, .ref m2, .ref m3, .ref m4, .ref m5, .int v6, .int v7, .int v8, .int v9, .int v10, .long v11, .int v12, .int v13, .int v14, .int v15, .ref m16, .ref m17, .ref m18, .ref m19, .ref m20, .ref m21, .ref m22, .ref m23, .int v24, .ref m25, .ref m26, .ref m27, .ref m28, .ref m29, .int v30, .ref m31, .ref m32, .ref m33, .int v34, .int v35, .int v36, .ref m37, .ref m38, .ref m39, .ref m40, .long v41])), (m17, .inl (k 0, 30, .inl f17)), (m20, .inl (k 0, 120, .inl f20)), (m37, .inl (k 0, 6, .inl f37)), (m38, .inl (k 0, 6, .inl f38))] sz)) 0 0 (va_A [(mo, .inr (12, [.int v0, .ref m1, .ref m2, .ref m3, .ref m4, .ref m5, .int v6, .int v7, .int v8, .int v9, .int v10, .long v11, .int v12, .int v13, .int v14, .int v15, .ref m16, .ref m17, .ref m18, .ref m19, .ref m20, .ref m21, .ref m22, .ref m23, .int v24, .ref m25, .ref m26, .ref m27, .ref m28, .ref m29, .int v30, .ref m31, .ref m32, .ref m33, .int v34, .int v35, .int v36, .ref m37, .ref m38, .ref m39, .ref m40, .long v41])), (m17, .inl (k 0, 30, .inl f17)), (m20, .inl (k 0, 120, .inl f20)), (m37, .inl (k 0, 6, .inl f37)), (m38, .inl (k 0, 6, .inl f38))] sz) := by
  refine Met.ofW (cc := cX12_packs) (maxL := 5) (ret := (some .boolean)) (by decide +kernel) rfl ?_
  intro p e s m args below meth c s₁ B hml hv
  obtain ⟨rfl, hsz, hP, hK, hD0, hN⟩ := hv
  have hx := B.exec
  have hb := B.bytes
  have hr := B.returns
  have hts : ∀ w ∈ TT, w.before _ s = true := fun w h => atoms_spec (ws := ww yX12_packs cX12_packs 5 (some .boolean)) B.pre w (List.mem_cons_of_mem _ h)
  have hown : s.vm.findClass RX12 = some m.cls := findClass_of_methodNamed B.named
  have hlocks := B.notSynchronized
  subst hsz
  have hD := hD0.self (sz := s.heap.size)
  generalize hAe : va_A [(mo, .inr (12, [.int v0, .ref m1, .ref m2, .ref m3, .ref m4, .ref m5, .int v6, .int v7, .int v8, .int v9, .int v10, .long v11, .int v12, .int v13, .int v14, .int v15, .ref m16, .ref m17, .ref m18, .ref m19, .ref m20, .ref m21, .ref m22, .ref m23, .int v24, .ref m25, .ref m26, .ref m27, .ref m28, .ref m29, .int v30, .ref m31, .ref m32, .ref m33, .int v34, .int v35, .int v36, .ref m37, .ref m38, .ref m39, .ref m40, .long v41])), (m17, .inl (k 0, 30, .inl f17)), (m20, .inl (k 0, 120, .inl f20)), (m37, .inl (k 0, 6, .inl f37)), (m38, .inl (k 0, 6, .inl f38))] s.heap.size = A at hD ⊢
  have hA : ∀ q : Nat, s.heap.size ≤ q → A q := fun q h => by rw [← hAe]; exact Or.inr h
  have hS : va_S A s.heap s.heap [] := va_S.rf
  have hl := lv_entry ([.ref mo, .int 2, .int p1, .int p2]) (n := 5) (Nat.le_of_ble_eq_true rfl)
  rw [lg_entry_eq]
  generalize (lg_sl ([.ref mo, .int 2, .int p1, .int p2]) ++ List.replicate (5 - (lg_sl ([.ref mo, .int 2, .int p1, .int p2])).length) Slot.unset).toArray = ls at hl ⊢
  have hl : lv_has ls 5 [(0, .ref mo), (1, .int 2), (2, .int p1), (3, .int p2)] := hl
  refine lv_iload_n hx hb dX12_packs_0 rfl (lv_at hl 1 rfl) ?_
  refine lv_aload_n hx hb dX12_packs_1 rfl (lv_at hl 0 rfl) ?_
  refine va_get (D := D) (ci := 12) (v := .ref m17) (C := RX12) (T := TX12) (N := 42) hx hb hts iT_X12 hown hK hP 0 rfl rfl 17 (by decide) (hts _ tw_6_70) (fun _ h9 => h9) rfl dX12_packs_2 ?_
  refine lv_iconst (v := 3) hx hb dX12_packs_5 (by decide) ?_
  refine va_iald hx hb hK hP 1 0 rfl rfl (z_in (by decide) (by decide)) dX12_packs_6 ?_
  refine lv_topi (fun x_1 ex_1 => ?_)
  have zx_1r3 : 0 ≤ x_1.toInt ∧ x_1.toInt ≤ 6 := by rw [ex_1]; exact PR.ld hp_f17_3 (by decide) (by decide) (by decide)
  have zpx_1 : 2 ≤ x_1.toInt := by rw [ex_1]; exact hh
  refine lv_icmp_ne (tgt := 12) hx hb dX12_packs_7 (by decide) (fun h_2 => ?_) (fun h_2 => ?_)
  · skip
    have zh_2 : ¬ 2 = x_1.toInt := z_ne h_2
    refine lv_iconst (v := 0) hx hb dX12_packs_12 (by decide) ?_
    refine lv_istore (lv' := [(4, .int 0), (0, .ref mo), (1, .int 2), (2, .int p1), (3, .int p2)]) hx hb dX12_packs_13 hl (by decide) rfl (fun ls hl => ?_)
    refine loop_r (Wg := fun H locs ls => W p l e _ s m _ below meth c H locs _ _ _ (F0 m 15 ls [])) (fun n9 H locs ls => ∃ (L15l4 : Int32) (L15a3 : Nat → Int32) (L15a4 : Nat → Int32), n9 = (3 - L15l4.toInt).toNat ∧ (0 ≤ L15l4.toInt ∧ L15l4.toInt ≤ 3) ∧ va_P D vwCl [(mo, .inr (12, [.int v0, .ref m1, .ref m2, .ref m3, .ref m4, .ref m5, .int v6, .int v7, .int v8, .int v9, .int v10, .long v11, .int v12, .int v13, .int v14, .int v15, .ref m16, .ref m17, .ref m18, .ref m19, .ref m20, .ref m21, .ref m22, .ref m23, .int v24, .ref m25, .ref m26, .ref m27, .ref m28, .ref m29, .int v30, .ref m31, .ref m32, .ref m33, .int v34, .int v35, .int v36, .ref m37, .ref m38, .ref m39, .ref m40, .long v41])), (m17, .inl (k 0, 30, .inl f17)), (m20, .inl (k 0, 120, .inl f20)), (m37, .inl (k 0, 6, .inl L15a3)), (m38, .inl (k 0, 6, .inl L15a4))] H ∧ va_D A [(mo, .inr (12, [.int v0, .ref m1, .ref m2, .ref m3, .ref m4, .ref m5, .int v6, .int v7, .int v8, .int v9, .int v10, .long v11, .int v12, .int v13, .int v14, .int v15, .ref m16, .ref m17, .ref m18, .ref m19, .ref m20, .ref m21, .ref m22, .ref m23, .int v24, .ref m25, .ref m26, .ref m27, .ref m28, .ref m29, .int v30, .ref m31, .ref m32, .ref m33, .int v34, .int v35, .int v36, .ref m37, .ref m38, .ref m39, .ref m40, .long v41])), (m17, .inl (k 0, 30, .inl f17)), (m20, .inl (k 0, 120, .inl f20)), (m37, .inl (k 0, 6, .inl L15a3)), (m38, .inl (k 0, 6, .inl L15a4))] ∧ va_S A s.heap H locs ∧ lv_has ls 5 [(0, .ref mo), (1, .int 2), (2, .int p1), (3, .int p2), (4, .int L15l4)]) (fun n9 H locs ls hI ih_3 => ?_) _ _ _ _ ⟨0, f37, f38, rfl, (show 0 ≤ 0 ∧ 0 ≤ 3 from by omega), hP.sub (ws' := [(mo, .inr (12, [.int v0, .ref m1, .ref m2, .ref m3, .ref m4, .ref m5, .int v6, .int v7, .int v8, .int v9, .int v10, .long v11, .int v12, .int v13, .int v14, .int v15, .ref m16, .ref m17, .ref m18, .ref m19, .ref m20, .ref m21, .ref m22, .ref m23, .int v24, .ref m25, .ref m26, .ref m27, .ref m28, .ref m29, .int v30, .ref m31, .ref m32, .ref m33, .int v34, .int v35, .int v36, .ref m37, .ref m38, .ref m39, .ref m40, .long v41])), (m17, .inl (k 0, 30, .inl f17)), (m20, .inl (k 0, 120, .inl f20)), (m37, .inl (k 0, 6, .inl f37)), (m38, .inl (k 0, 6, .inl f38))]) [0, 1, 2, 3, 4] rfl, hD.sub (ws' := [(mo, .inr (12, [.int v0, .ref m1, .ref m2, .ref m3, .ref m4, .ref m5, .int v6, .int v7, .int v8, .int v9, .int v10, .long v11, .int v12, .int v13, .int v14, .int v15, .ref m16, .ref m17, .ref m18, .ref m19, .ref m20, .ref m21, .ref m22, .ref m23, .int v24, .ref m25, .ref m26, .ref m27, .ref m28, .ref m29, .int v30, .ref m31, .ref m32, .ref m33, .int v34, .int v35, .int v36, .ref m37, .ref m38, .ref m39, .ref m40, .long v41])), (m17, .inl (k 0, 30, .inl f17)), (m20, .inl (k 0, 120, .inl f20)), (m37, .inl (k 0, 6, .inl f37)), (m38, .inl (k 0, 6, .inl f38))]) [0, 1, 2, 3, 4] (by decide +kernel) rfl, hS, lv_sub hl [1, 2, 3, 4, 0] rfl⟩
    clear hP hD hS hl
    obtain ⟨L15l4, L15a3, L15a4, en_4, zL15l4, hP, hD, hS, hl⟩ := hI
    refine lv_iload hx hb dX12_packs_15 (lv_at hl 4 rfl) ?_
    refine lv_iload_n hx hb dX12_packs_17 rfl (lv_at hl 2 rfl) ?_
    refine lv_icmp_gt (tgt := 130) hx hb dX12_packs_18 (by decide) (fun h_5 => ?_) (fun h_5 => ?_)
    · skip
      have zh_5 : p1.toInt < L15l4.toInt := z_lt h_5
      refine lv_iconst (v := 0) hx hb dX12_packs_130 (by decide) ?_
      obtain ⟨hP9, hD9⟩ := sub2 hP hD (ws' := [(mo, .inr (12, [.int v0, .ref m1, .ref m2, .ref m3, .ref m4, .ref m5, .int v6, .int v7, .int v8, .int v9, .int v10, .long v11, .int v12, .int v13, .int v14, .int v15, .ref m16, .ref m17, .ref m18, .ref m19, .ref m20, .ref m21, .ref m22, .ref m23, .int v24, .ref m25, .ref m26, .ref m27, .ref m28, .ref m29, .int v30, .ref m31, .ref m32, .ref m33, .int v34, .int v35, .int v36, .ref m37, .ref m38, .ref m39, .ref m40, .long v41])), (m17, .inl (k 0, 30, .inl f17)), (m20, .inl (k 0, 120, .inl f20)), (m37, .inl (k 0, 6, .inl L15a3)), (m38, .inl (k 0, 6, .inl L15a4))]) [0, 1, 2, 3, 4] (by decide +kernel) rfl
      exact W.zret (v := 0) hx hb hr (by decide) (fun tZ ht hW => ⟨⟨0, (L15a3, L15a4), rfl, (show 0 ≤ 0 ∧ 0 ≤ 1 from by omega), by rw [ht]; exact hP9, va_K.moved hW.alike hK, hD9⟩, hS.F ht⟩) hS.2.2 dX12_packs_131
    · skip
      have zh_5 : L15l4.toInt ≤ p1.toInt := z_nlt h_5
      refine lv_iload hx hb dX12_packs_21 (lv_at hl 4 rfl) ?_
      refine lv_iload_n hx hb dX12_packs_23 rfl (lv_at hl 3 rfl) ?_
      refine lv_icmp_ge (tgt := 130) hx hb dX12_packs_24 (by decide) (fun h_6 => ?_) (fun h_6 => ?_)
      · skip
        have zh_6 : p2.toInt ≤ L15l4.toInt := z_le h_6
        refine lv_iconst (v := 0) hx hb dX12_packs_130 (by decide) ?_
        obtain ⟨hP9, hD9⟩ := sub2 hP hD (ws' := [(mo, .inr (12, [.int v0, .ref m1, .ref m2, .ref m3, .ref m4, .ref m5, .int v6, .int v7, .int v8, .int v9, .int v10, .long v11, .int v12, .int v13, .int v14, .int v15, .ref m16, .ref m17, .ref m18, .ref m19, .ref m20, .ref m21, .ref m22, .ref m23, .int v24, .ref m25, .ref m26, .ref m27, .ref m28, .ref m29, .int v30, .ref m31, .ref m32, .ref m33, .int v34, .int v35, .int v36, .ref m37, .ref m38, .ref m39, .ref m40, .long v41])), (m17, .inl (k 0, 30, .inl f17)), (m20, .inl (k 0, 120, .inl f20)), (m37, .inl (k 0, 6, .inl L15a3)), (m38, .inl (k 0, 6, .inl L15a4))]) [0, 1, 2, 3, 4] (by decide +kernel) rfl
        exact W.zret (v := 0) hx hb hr (by decide) (fun tZ ht hW => ⟨⟨0, (L15a3, L15a4), rfl, (show 0 ≤ 0 ∧ 0 ≤ 1 from by omega), by rw [ht]; exact hP9, va_K.moved hW.alike hK, hD9⟩, hS.F ht⟩) hS.2.2 dX12_packs_131
      · skip
        have zh_6 : L15l4.toInt < p2.toInt := z_nle h_6
        refine lv_aload_n hx hb dX12_packs_27 rfl (lv_at hl 0 rfl) ?_
        refine va_get (D := D) (ci := 12) (v := .ref m37) (C := RX12) (T := TX12) (N := 42) hx hb hts iT_X12 hown hK hP 0 rfl rfl 37 (by decide) (hts _ tw_6_90) (fun _ h9 => h9) rfl dX12_packs_28 ?_
        refine lv_iload hx hb dX12_packs_31 (lv_at hl 4 rfl) ?_
        refine va_iald hx hb hK hP 3 0 rfl rfl (z_in (by omega) (by omega)) dX12_packs_33 ?_
        refine lv_topi (fun x_7 ex_7 => ?_)
        refine lv_aload_n hx hb dX12_packs_34 rfl (lv_at hl 0 rfl) ?_
        refine va_get (D := D) (ci := 12) (v := .ref m20) (C := RX12) (T := TX12) (N := 42) hx hb hts iT_X12 hown hK hP 0 rfl rfl 20 (by decide) (hts _ tw_6_73) (fun _ h9 => h9) rfl dX12_packs_35 ?_
        refine lv_iconst (v := 4) hx hb dX12_packs_38 (by decide) ?_
        refine lv_iload_n hx hb dX12_packs_39 rfl (lv_at hl 1 rfl) ?_
        refine lv_imul hx hb dX12_packs_40 ?_
        refine lv_topi (fun x_8 ex_8 => ?_)
        obtain rfl : x_8 = 8 := ex_8.trans (by decide)
        refine lv_iconst (v := 3) hx hb dX12_packs_41 (by decide) ?_
        refine lv_iadd hx hb dX12_packs_42 ?_
        refine lv_topi (fun x_9 ex_9 => ?_)
        obtain rfl : x_9 = 11 := ex_9.trans (by decide)
        refine va_iald hx hb hK hP 2 0 rfl rfl (z_in (by decide) (by decide)) dX12_packs_43 ?_
        refine lv_topi (fun x_10 ex_10 => ?_)
        refine lv_icmp_ge (tgt := 50) hx hb dX12_packs_44 (by decide) (fun h_11 => ?_) (fun h_11 => ?_)
        · skip
          have zh_11 : x_10.toInt ≤ x_7.toInt := z_le h_11
          refine lv_aload_n hx hb dX12_packs_50 rfl (lv_at hl 0 rfl) ?_
          refine va_get (D := D) (ci := 12) (v := .ref m37) (C := RX12) (T := TX12) (N := 42) hx hb hts iT_X12 hown hK hP 0 rfl rfl 37 (by decide) (hts _ tw_6_90) (fun _ h9 => h9) rfl dX12_packs_51 ?_
          refine lv_iload hx hb dX12_packs_54 (lv_at hl 4 rfl) ?_
          refine lv_dup2_11 hx hb dX12_packs_56 rfl rfl ?_
          refine va_iald hx hb hK hP 3 0 rfl rfl (z_in (by omega) (by omega)) dX12_packs_57 ?_
          refine lv_topi (fun x_12 ex_12 => ?_)
          obtain rfl : x_7 = x_12 := ex_7.trans ex_12.symm
          refine lv_aload_n hx hb dX12_packs_58 rfl (lv_at hl 0 rfl) ?_
          refine va_get (D := D) (ci := 12) (v := .ref m20) (C := RX12) (T := TX12) (N := 42) hx hb hts iT_X12 hown hK hP 0 rfl rfl 20 (by decide) (hts _ tw_6_73) (fun _ h9 => h9) rfl dX12_packs_59 ?_
          refine lv_iconst (v := 4) hx hb dX12_packs_62 (by decide) ?_
          refine lv_iload_n hx hb dX12_packs_63 rfl (lv_at hl 1 rfl) ?_
          refine lv_imul hx hb dX12_packs_64 ?_
          refine lv_topi (fun x_13 ex_13 => ?_)
          obtain rfl : x_13 = 8 := ex_13.trans (by decide)
          refine lv_iconst (v := 3) hx hb dX12_packs_65 (by decide) ?_
          refine lv_iadd hx hb dX12_packs_66 ?_
          refine lv_topi (fun x_14 ex_14 => ?_)
          obtain rfl : x_14 = 11 := ex_14.trans (by decide)
          refine va_iald hx hb hK hP 2 0 rfl rfl (z_in (by decide) (by decide)) dX12_packs_67 ?_
          refine lv_topi (fun x_15 ex_15 => ?_)
          obtain rfl : x_10 = x_15 := ex_10.trans ex_15.symm
          refine lv_isub hx hb dX12_packs_68 ?_
          refine lv_topi (fun x_16 ex_16 => ?_)
          have zrx_7 := z_rng x_7
          have zrx_10 := z_rng x_10
          refine va_iast hx hb hK hP hD hS 3 0 rfl rfl (z_in (by omega) (by omega)) dX12_packs_69 (fun H locs hP hD hS => ?_)
          obtain ⟨g_17, eg_17⟩ : ∃ z : Nat → Int32, upd L15a3 L15l4.toNatClampNeg x_16 = z := ⟨_, rfl⟩
          have hP : va_P D vwCl [(mo, .inr (12, [.int v0, .ref m1, .ref m2, .ref m3, .ref m4, .ref m5, .int v6, .int v7, .int v8, .int v9, .int v10, .long v11, .int v12, .int v13, .int v14, .int v15, .ref m16, .ref m17, .ref m18, .ref m19, .ref m20, .ref m21, .ref m22, .ref m23, .int v24, .ref m25, .ref m26, .ref m27, .ref m28, .ref m29, .int v30, .ref m31, .ref m32, .ref m33, .int v34, .int v35, .int v36, .ref m37, .ref m38, .ref m39, .ref m40, .long v41])), (m17, .inl (k 0, 30, .inl f17)), (m20, .inl (k 0, 120, .inl f20)), (m37, .inl (k 0, 6, .inl (upd L15a3 L15l4.toNatClampNeg x_16))), (m38, .inl (k 0, 6, .inl L15a4))] H := hP
          have hD : va_D A [(mo, .inr (12, [.int v0, .ref m1, .ref m2, .ref m3, .ref m4, .ref m5, .int v6, .int v7, .int v8, .int v9, .int v10, .long v11, .int v12, .int v13, .int v14, .int v15, .ref m16, .ref m17, .ref m18, .ref m19, .ref m20, .ref m21, .ref m22, .ref m23, .int v24, .ref m25, .ref m26, .ref m27, .ref m28, .ref m29, .int v30, .ref m31, .ref m32, .ref m33, .int v34, .int v35, .int v36, .ref m37, .ref m38, .ref m39, .ref m40, .long v41])), (m17, .inl (k 0, 30, .inl f17)), (m20, .inl (k 0, 120, .inl f20)), (m37, .inl (k 0, 6, .inl (upd L15a3 L15l4.toNatClampNeg x_16))), (m38, .inl (k 0, 6, .inl L15a4))] := hD
          rw [eg_17] at hP hD
          refine lv_aload_n hx hb dX12_packs_70 rfl (lv_at hl 0 rfl) ?_
          refine va_get (D := D) (ci := 12) (v := .ref m38) (C := RX12) (T := TX12) (N := 42) hx hb hts iT_X12 hown hK hP 0 rfl rfl 38 (by decide) (hts _ tw_6_91) (fun _ h9 => h9) rfl dX12_packs_71 ?_
          refine lv_iload_n hx hb dX12_packs_74 rfl (lv_at hl 1 rfl) ?_
          refine lv_iload hx hb dX12_packs_75 (lv_at hl 4 rfl) ?_
          refine va_iast hx hb hK hP hD hS 4 0 rfl rfl (z_in (by decide) (by decide)) dX12_packs_77 (fun H locs hP hD hS => ?_)
          obtain ⟨g_18, eg_18⟩ : ∃ z : Nat → Int32, upd L15a4 2 L15l4 = z := ⟨_, rfl⟩
          have hP : va_P D vwCl [(mo, .inr (12, [.int v0, .ref m1, .ref m2, .ref m3, .ref m4, .ref m5, .int v6, .int v7, .int v8, .int v9, .int v10, .long v11, .int v12, .int v13, .int v14, .int v15, .ref m16, .ref m17, .ref m18, .ref m19, .ref m20, .ref m21, .ref m22, .ref m23, .int v24, .ref m25, .ref m26, .ref m27, .ref m28, .ref m29, .int v30, .ref m31, .ref m32, .ref m33, .int v34, .int v35, .int v36, .ref m37, .ref m38, .ref m39, .ref m40, .long v41])), (m17, .inl (k 0, 30, .inl f17)), (m20, .inl (k 0, 120, .inl f20)), (m37, .inl (k 0, 6, .inl g_17)), (m38, .inl (k 0, 6, .inl (upd L15a4 2 L15l4)))] H := hP
          have hD : va_D A [(mo, .inr (12, [.int v0, .ref m1, .ref m2, .ref m3, .ref m4, .ref m5, .int v6, .int v7, .int v8, .int v9, .int v10, .long v11, .int v12, .int v13, .int v14, .int v15, .ref m16, .ref m17, .ref m18, .ref m19, .ref m20, .ref m21, .ref m22, .ref m23, .int v24, .ref m25, .ref m26, .ref m27, .ref m28, .ref m29, .int v30, .ref m31, .ref m32, .ref m33, .int v34, .int v35, .int v36, .ref m37, .ref m38, .ref m39, .ref m40, .long v41])), (m17, .inl (k 0, 30, .inl f17)), (m20, .inl (k 0, 120, .inl f20)), (m37, .inl (k 0, 6, .inl g_17)), (m38, .inl (k 0, 6, .inl (upd L15a4 2 L15l4)))] := hD
          rw [eg_18] at hP hD
          refine lv_aload_n hx hb dX12_packs_78 rfl (lv_at hl 0 rfl) ?_
          refine lv_iload_n hx hb dX12_packs_79 rfl (lv_at hl 1 rfl) ?_
          refine lv_iconst (v := 1) hx hb dX12_packs_80 (by decide) ?_
          refine lv_iadd hx hb dX12_packs_81 ?_
          refine lv_topi (fun x_19 ex_19 => ?_)
          obtain rfl : x_19 = 3 := ex_19.trans (by decide)
          refine lv_iload hx hb dX12_packs_82 (lv_at hl 4 rfl) ?_
          refine lv_iload_n hx hb dX12_packs_84 rfl (lv_at hl 2 rfl) ?_
          refine lv_icmp_ne (tgt := 94) hx hb dX12_packs_85 (by decide) (fun h_20 => ?_) (fun h_20 => ?_)
          · skip
            have zh_20 : ¬ L15l4.toInt = p1.toInt := z_ne h_20
            refine lv_iload_n hx hb dX12_packs_94 rfl (lv_at hl 2 rfl) ?_
            refine lv_iload_n hx hb dX12_packs_95 rfl (lv_at hl 3 rfl) ?_
            obtain ⟨hPc, hDc, hFc⟩ := sub3 hP hD hS hA (ws' := [(mo, .inr (12, [.int v0, .ref m1, .ref m2, .ref m3, .ref m4, .ref m5, .int v6, .int v7, .int v8, .int v9, .int v10, .long v11, .int v12, .int v13, .int v14, .int v15, .ref m16, .ref m17, .ref m18, .ref m19, .ref m20, .ref m21, .ref m22, .ref m23, .int v24, .ref m25, .ref m26, .ref m27, .ref m28, .ref m29, .int v30, .ref m31, .ref m32, .ref m33, .int v34, .int v35, .int v36, .ref m37, .ref m38, .ref m39, .ref m40, .long v41])), (m17, .inl (k 0, 30, .inl f17)), (m20, .inl (k 0, 120, .inl f20)), (m37, .inl (k 0, 6, .inl g_17)), (m38, .inl (k 0, 6, .inl g_18))]) [0, 1, 2, 3, 4] (by decide +kernel) rfl
            refine va_calli (va_runV (C := RX12) (As := [.int 3, .int p1, .int p2]) (rest := []) ⟨hx, hb, hml, hown, hts⟩ (c_X12_packs_3 l D k mo p1 p2 v0 m1 m2 m3 m4 m5 v6 v7 v8 v9 v10 v11 v12 v13 v14 v15 m16 m17 m18 m19 m20 m21 m22 m23 v24 m25 m26 m27 m28 m29 v30 m31 m32 m33 v34 v35 v36 m37 m38 m39 m40 v41 f17 f20 g_17 g_18 H.size (show 0 ≤ p1.toInt ∧ p1.toInt ≤ 3 from by omega) (show 0 ≤ p2.toInt ∧ p2.toInt ≤ 6 from by omega) (show 0 ≤ v6.toInt ∧ v6.toInt ≤ 1000 from by omega) (show 0 ≤ v24.toInt ∧ v24.toInt ≤ 1023 from by omega) hp_f17_0 hp_f17_1 hp_f17_2 hp_f17_3 hp_f17_4 hp_f17_5 hp_f20_0 (show 3 ≤ (f17 3).toInt from by rw [show f17 3 = x_1 from ex_1.symm]; omega)) (cwV 3 hts (gV tw_8_146 tw_8_148 tw_p_90 tw_1_13 tw_8_149) rfl rfl rfl hdV_X12_packs ⟨Nat.le_of_ble_eq_true rfl, Nat.le_of_ble_eq_true rfl⟩) (cz_V hK hPc hDc hN (ci := 12) (q0 := 0) rfl rfl [.int 3, .int p1, .int p2]) rfl rfl hl.1 rfl (lv_room (Nat.le_of_ble_eq_true rfl)) dX12_packs_96 ⟨Nat.le_of_ble_eq_true rfl, Nat.le_of_ble_eq_true rfl⟩) hS (fun q _ h => hFc q h) hFc (fun r_21 uZ tZ H1 locs ht hvm hw hB hz1 hk1 hS => ?_)
            obtain ⟨o_22, o_23⟩ := uZ
            obtain ⟨hP1, hK1, hD1⟩ := hB
            rw [ht] at hP1
            obtain ⟨hP, hD⟩ := va_join (wr := []) (w1 := [(mo, .inr (12, [.int v0, .ref m1, .ref m2, .ref m3, .ref m4, .ref m5, .int v6, .int v7, .int v8, .int v9, .int v10, .long v11, .int v12, .int v13, .int v14, .int v15, .ref m16, .ref m17, .ref m18, .ref m19, .ref m20, .ref m21, .ref m22, .ref m23, .int v24, .ref m25, .ref m26, .ref m27, .ref m28, .ref m29, .int v30, .ref m31, .ref m32, .ref m33, .int v34, .int v35, .int v36, .ref m37, .ref m38, .ref m39, .ref m40, .long v41])), (m17, .inl (k 0, 30, .inl f17)), (m20, .inl (k 0, 120, .inl f20)), (m37, .inl (k 0, 6, .inl o_22)), (m38, .inl (k 0, 6, .inl o_23))]) hP hD [0, 1, 2, 3, 4] [] rfl rfl (by decide +kernel) (by decide +kernel) hk1 hFc hP1 hD1
            clear hK1 hP1 hD1 hPc hDc hFc
            clear hk1 hz1 ht hvm
            have hP : va_P D vwCl [(mo, .inr (12, [.int v0, .ref m1, .ref m2, .ref m3, .ref m4, .ref m5, .int v6, .int v7, .int v8, .int v9, .int v10, .long v11, .int v12, .int v13, .int v14, .int v15, .ref m16, .ref m17, .ref m18, .ref m19, .ref m20, .ref m21, .ref m22, .ref m23, .int v24, .ref m25, .ref m26, .ref m27, .ref m28, .ref m29, .int v30, .ref m31, .ref m32, .ref m33, .int v34, .int v35, .int v36, .ref m37, .ref m38, .ref m39, .ref m40, .long v41])), (m17, .inl (k 0, 30, .inl f17)), (m20, .inl (k 0, 120, .inl f20)), (m37, .inl (k 0, 6, .inl o_22)), (m38, .inl (k 0, 6, .inl o_23))] H1 := hP
            have hD : va_D A [(mo, .inr (12, [.int v0, .ref m1, .ref m2, .ref m3, .ref m4, .ref m5, .int v6, .int v7, .int v8, .int v9, .int v10, .long v11, .int v12, .int v13, .int v14, .int v15, .ref m16, .ref m17, .ref m18, .ref m19, .ref m20, .ref m21, .ref m22, .ref m23, .int v24, .ref m25, .ref m26, .ref m27, .ref m28, .ref m29, .int v30, .ref m31, .ref m32, .ref m33, .int v34, .int v35, .int v36, .ref m37, .ref m38, .ref m39, .ref m40, .long v41])), (m17, .inl (k 0, 30, .inl f17)), (m20, .inl (k 0, 120, .inl f20)), (m37, .inl (k 0, 6, .inl o_22)), (m38, .inl (k 0, 6, .inl o_23))] := hD
            generalize H1 = H at hP hS ⊢
            have hw_24 : (0 ≤ r_21.toInt ∧ r_21.toInt ≤ 1) := hw
            have hw_25 := hw_24
            clear hw
            refine lv_if_eq (tgt := 104) hx hb dX12_packs_99 (by decide) (fun h_26 => ?_) (fun h_26 => ?_)
            · skip
              have zh_26 : r_21.toInt = 0 := z_eq h_26
              refine lv_aload_n hx hb dX12_packs_104 rfl (lv_at hl 0 rfl) ?_
              refine va_get (D := D) (ci := 12) (v := .ref m37) (C := RX12) (T := TX12) (N := 42) hx hb hts iT_X12 hown hK hP 0 rfl rfl 37 (by decide) (hts _ tw_6_90) (fun _ h9 => h9) rfl dX12_packs_105 ?_
              refine lv_iload hx hb dX12_packs_108 (lv_at hl 4 rfl) ?_
              refine lv_dup2_11 hx hb dX12_packs_110 rfl rfl ?_
              refine va_iald hx hb hK hP 3 0 rfl rfl (z_in (by omega) (by omega)) dX12_packs_111 ?_
              refine lv_topi (fun x_27 ex_27 => ?_)
              refine lv_aload_n hx hb dX12_packs_112 rfl (lv_at hl 0 rfl) ?_
              refine va_get (D := D) (ci := 12) (v := .ref m20) (C := RX12) (T := TX12) (N := 42) hx hb hts iT_X12 hown hK hP 0 rfl rfl 20 (by decide) (hts _ tw_6_73) (fun _ h9 => h9) rfl dX12_packs_113 ?_
              refine lv_iconst (v := 4) hx hb dX12_packs_116 (by decide) ?_
              refine lv_iload_n hx hb dX12_packs_117 rfl (lv_at hl 1 rfl) ?_
              refine lv_imul hx hb dX12_packs_118 ?_
              refine lv_topi (fun x_28 ex_28 => ?_)
              obtain rfl : x_28 = 8 := ex_28.trans (by decide)
              refine lv_iconst (v := 3) hx hb dX12_packs_119 (by decide) ?_
              refine lv_iadd hx hb dX12_packs_120 ?_
              refine lv_topi (fun x_29 ex_29 => ?_)
              obtain rfl : x_29 = 11 := ex_29.trans (by decide)
              refine va_iald hx hb hK hP 2 0 rfl rfl (z_in (by decide) (by decide)) dX12_packs_121 ?_
              refine lv_topi (fun x_30 ex_30 => ?_)
              obtain rfl : x_10 = x_30 := ex_10.trans ex_30.symm
              refine lv_iadd hx hb dX12_packs_122 ?_
              refine lv_topi (fun x_31 ex_31 => ?_)
              have zrx_27 := z_rng x_27
              refine va_iast hx hb hK hP hD hS 3 0 rfl rfl (z_in (by omega) (by omega)) dX12_packs_123 (fun H locs hP hD hS => ?_)
              obtain ⟨g_32, eg_32⟩ : ∃ z : Nat → Int32, upd o_22 L15l4.toNatClampNeg x_31 = z := ⟨_, rfl⟩
              have hP : va_P D vwCl [(mo, .inr (12, [.int v0, .ref m1, .ref m2, .ref m3, .ref m4, .ref m5, .int v6, .int v7, .int v8, .int v9, .int v10, .long v11, .int v12, .int v13, .int v14, .int v15, .ref m16, .ref m17, .ref m18, .ref m19, .ref m20, .ref m21, .ref m22, .ref m23, .int v24, .ref m25, .ref m26, .ref m27, .ref m28, .ref m29, .int v30, .ref m31, .ref m32, .ref m33, .int v34, .int v35, .int v36, .ref m37, .ref m38, .ref m39, .ref m40, .long v41])), (m17, .inl (k 0, 30, .inl f17)), (m20, .inl (k 0, 120, .inl f20)), (m37, .inl (k 0, 6, .inl (upd o_22 L15l4.toNatClampNeg x_31))), (m38, .inl (k 0, 6, .inl o_23))] H := hP
              have hD : va_D A [(mo, .inr (12, [.int v0, .ref m1, .ref m2, .ref m3, .ref m4, .ref m5, .int v6, .int v7, .int v8, .int v9, .int v10, .long v11, .int v12, .int v13, .int v14, .int v15, .ref m16, .ref m17, .ref m18, .ref m19, .ref m20, .ref m21, .ref m22, .ref m23, .int v24, .ref m25, .ref m26, .ref m27, .ref m28, .ref m29, .int v30, .ref m31, .ref m32, .ref m33, .int v34, .int v35, .int v36, .ref m37, .ref m38, .ref m39, .ref m40, .long v41])), (m17, .inl (k 0, 30, .inl f17)), (m20, .inl (k 0, 120, .inl f20)), (m37, .inl (k 0, 6, .inl (upd o_22 L15l4.toNatClampNeg x_31))), (m38, .inl (k 0, 6, .inl o_23))] := hD
              rw [eg_32] at hP hD
              obtain ⟨x_33, ex_33⟩ : ∃ y : Int32, y = L15l4 + 1 := ⟨_, rfl⟩
              have zx_33 : x_33.toInt = L15l4.toInt + 1 := by rw [ex_33]; exact z_add rfl rfl (by omega) (by omega)
              refine lv_iinc (v := x_33) (lv' := [(4, .int x_33), (0, .ref mo), (1, .int 2), (2, .int p1), (3, .int p2)]) hx hb dX12_packs_124 hl (k := 4) rfl (by rw [ex_33]; rfl) (by decide) rfl (fun ls hl => ?_)
              refine lv_goto (tgt := 15) hx hb dX12_packs_127 (by decide) ?_
              exact ih_3 _ _ _ _ (by omega) ⟨x_33, g_32, o_23, rfl, (show 0 ≤ x_33.toInt ∧ x_33.toInt ≤ 3 from by omega), hP.sub (ws' := [(mo, .inr (12, [.int v0, .ref m1, .ref m2, .ref m3, .ref m4, .ref m5, .int v6, .int v7, .int v8, .int v9, .int v10, .long v11, .int v12, .int v13, .int v14, .int v15, .ref m16, .ref m17, .ref m18, .ref m19, .ref m20, .ref m21, .ref m22, .ref m23, .int v24, .ref m25, .ref m26, .ref m27, .ref m28, .ref m29, .int v30, .ref m31, .ref m32, .ref m33, .int v34, .int v35, .int v36, .ref m37, .ref m38, .ref m39, .ref m40, .long v41])), (m17, .inl (k 0, 30, .inl f17)), (m20, .inl (k 0, 120, .inl f20)), (m37, .inl (k 0, 6, .inl g_32)), (m38, .inl (k 0, 6, .inl o_23))]) [0, 1, 2, 3, 4] rfl, hD.sub (ws' := [(mo, .inr (12, [.int v0, .ref m1, .ref m2, .ref m3, .ref m4, .ref m5, .int v6, .int v7, .int v8, .int v9, .int v10, .long v11, .int v12, .int v13, .int v14, .int v15, .ref m16, .ref m17, .ref m18, .ref m19, .ref m20, .ref m21, .ref m22, .ref m23, .int v24, .ref m25, .ref m26, .ref m27, .ref m28, .ref m29, .int v30, .ref m31, .ref m32, .ref m33, .int v34, .int v35, .int v36, .ref m37, .ref m38, .ref m39, .ref m40, .long v41])), (m17, .inl (k 0, 30, .inl f17)), (m20, .inl (k 0, 120, .inl f20)), (m37, .inl (k 0, 6, .inl g_32)), (m38, .inl (k 0, 6, .inl o_23))]) [0, 1, 2, 3, 4] (by decide +kernel) rfl, hS, lv_sub hl [1, 2, 3, 4, 0] rfl⟩
            · skip
              have zh_26 : ¬ r_21.toInt = 0 := z_ne h_26
              refine lv_iconst (v := 1) hx hb dX12_packs_102 (by decide) ?_
              obtain ⟨hP9, hD9⟩ := sub2 hP hD (ws' := [(mo, .inr (12, [.int v0, .ref m1, .ref m2, .ref m3, .ref m4, .ref m5, .int v6, .int v7, .int v8, .int v9, .int v10, .long v11, .int v12, .int v13, .int v14, .int v15, .ref m16, .ref m17, .ref m18, .ref m19, .ref m20, .ref m21, .ref m22, .ref m23, .int v24, .ref m25, .ref m26, .ref m27, .ref m28, .ref m29, .int v30, .ref m31, .ref m32, .ref m33, .int v34, .int v35, .int v36, .ref m37, .ref m38, .ref m39, .ref m40, .long v41])), (m17, .inl (k 0, 30, .inl f17)), (m20, .inl (k 0, 120, .inl f20)), (m37, .inl (k 0, 6, .inl o_22)), (m38, .inl (k 0, 6, .inl o_23))]) [0, 1, 2, 3, 4] (by decide +kernel) rfl
              exact W.zret (v := 1) hx hb hr (by decide) (fun tZ ht hW => ⟨⟨1, (o_22, o_23), rfl, (show 0 ≤ 1 ∧ 1 ≤ 1 from by omega), by rw [ht]; exact hP9, va_K.moved hW.alike hK, hD9⟩, hS.F ht⟩) hS.2.2 dX12_packs_103
          · skip
            have zh_20 : L15l4.toInt = p1.toInt := z_eq h_20
            refine lv_iload_n hx hb dX12_packs_88 rfl (lv_at hl 2 rfl) ?_
            refine lv_iconst (v := 1) hx hb dX12_packs_89 (by decide) ?_
            refine lv_iadd hx hb dX12_packs_90 ?_
            refine lv_topi (fun x_34 ex_34 => ?_)
            have zx_34 : x_34.toInt = p1.toInt + 1 := by rw [ex_34]; exact z_add rfl rfl (by omega) (by omega)
            refine lv_goto (tgt := 95) hx hb dX12_packs_91 (by decide) ?_
            refine lv_iload_n hx hb dX12_packs_95 rfl (lv_at hl 3 rfl) ?_
            obtain ⟨hPc, hDc, hFc⟩ := sub3 hP hD hS hA (ws' := [(mo, .inr (12, [.int v0, .ref m1, .ref m2, .ref m3, .ref m4, .ref m5, .int v6, .int v7, .int v8, .int v9, .int v10, .long v11, .int v12, .int v13, .int v14, .int v15, .ref m16, .ref m17, .ref m18, .ref m19, .ref m20, .ref m21, .ref m22, .ref m23, .int v24, .ref m25, .ref m26, .ref m27, .ref m28, .ref m29, .int v30, .ref m31, .ref m32, .ref m33, .int v34, .int v35, .int v36, .ref m37, .ref m38, .ref m39, .ref m40, .long v41])), (m17, .inl (k 0, 30, .inl f17)), (m20, .inl (k 0, 120, .inl f20)), (m37, .inl (k 0, 6, .inl g_17)), (m38, .inl (k 0, 6, .inl g_18))]) [0, 1, 2, 3, 4] (by decide +kernel) rfl
            refine va_calli (va_runV (C := RX12) (As := [.int 3, .int x_34, .int p2]) (rest := []) ⟨hx, hb, hml, hown, hts⟩ (c_X12_packs_3 l D k mo x_34 p2 v0 m1 m2 m3 m4 m5 v6 v7 v8 v9 v10 v11 v12 v13 v14 v15 m16 m17 m18 m19 m20 m21 m22 m23 v24 m25 m26 m27 m28 m29 v30 m31 m32 m33 v34 v35 v36 m37 m38 m39 m40 v41 f17 f20 g_17 g_18 H.size (show 0 ≤ x_34.toInt ∧ x_34.toInt ≤ 3 from by omega) (show 0 ≤ p2.toInt ∧ p2.toInt ≤ 6 from by omega) (show 0 ≤ v6.toInt ∧ v6.toInt ≤ 1000 from by omega) (show 0 ≤ v24.toInt ∧ v24.toInt ≤ 1023 from by omega) hp_f17_0 hp_f17_1 hp_f17_2 hp_f17_3 hp_f17_4 hp_f17_5 hp_f20_0 (show 3 ≤ (f17 3).toInt from by rw [show f17 3 = x_1 from ex_1.symm]; omega)) (cwV 3 hts (gV tw_8_146 tw_8_148 tw_p_90 tw_1_13 tw_8_149) rfl rfl rfl hdV_X12_packs ⟨Nat.le_of_ble_eq_true rfl, Nat.le_of_ble_eq_true rfl⟩) (cz_V hK hPc hDc hN (ci := 12) (q0 := 0) rfl rfl [.int 3, .int x_34, .int p2]) rfl rfl hl.1 rfl (lv_room (Nat.le_of_ble_eq_true rfl)) dX12_packs_96 ⟨Nat.le_of_ble_eq_true rfl, Nat.le_of_ble_eq_true rfl⟩) hS (fun q _ h => hFc q h) hFc (fun r_35 uZ tZ H1 locs ht hvm hw hB hz1 hk1 hS => ?_)
            obtain ⟨o_36, o_37⟩ := uZ
            obtain ⟨hP1, hK1, hD1⟩ := hB
            rw [ht] at hP1
            obtain ⟨hP, hD⟩ := va_join (wr := []) (w1 := [(mo, .inr (12, [.int v0, .ref m1, .ref m2, .ref m3, .ref m4, .ref m5, .int v6, .int v7, .int v8, .int v9, .int v10, .long v11, .int v12, .int v13, .int v14, .int v15, .ref m16, .ref m17, .ref m18, .ref m19, .ref m20, .ref m21, .ref m22, .ref m23, .int v24, .ref m25, .ref m26, .ref m27, .ref m28, .ref m29, .int v30, .ref m31, .ref m32, .ref m33, .int v34, .int v35, .int v36, .ref m37, .ref m38, .ref m39, .ref m40, .long v41])), (m17, .inl (k 0, 30, .inl f17)), (m20, .inl (k 0, 120, .inl f20)), (m37, .inl (k 0, 6, .inl o_36)), (m38, .inl (k 0, 6, .inl o_37))]) hP hD [0, 1, 2, 3, 4] [] rfl rfl (by decide +kernel) (by decide +kernel) hk1 hFc hP1 hD1
            clear hK1 hP1 hD1 hPc hDc hFc
            clear hk1 hz1 ht hvm
            have hP : va_P D vwCl [(mo, .inr (12, [.int v0, .ref m1, .ref m2, .ref m3, .ref m4, .ref m5, .int v6, .int v7, .int v8, .int v9, .int v10, .long v11, .int v12, .int v13, .int v14, .int v15, .ref m16, .ref m17, .ref m18, .ref m19, .ref m20, .ref m21, .ref m22, .ref m23, .int v24, .ref m25, .ref m26, .ref m27, .ref m28, .ref m29, .int v30, .ref m31, .ref m32, .ref m33, .int v34, .int v35, .int v36, .ref m37, .ref m38, .ref m39, .ref m40, .long v41])), (m17, .inl (k 0, 30, .inl f17)), (m20, .inl (k 0, 120, .inl f20)), (m37, .inl (k 0, 6, .inl o_36)), (m38, .inl (k 0, 6, .inl o_37))] H1 := hP
            have hD : va_D A [(mo, .inr (12, [.int v0, .ref m1, .ref m2, .ref m3, .ref m4, .ref m5, .int v6, .int v7, .int v8, .int v9, .int v10, .long v11, .int v12, .int v13, .int v14, .int v15, .ref m16, .ref m17, .ref m18, .ref m19, .ref m20, .ref m21, .ref m22, .ref m23, .int v24, .ref m25, .ref m26, .ref m27, .ref m28, .ref m29, .int v30, .ref m31, .ref m32, .ref m33, .int v34, .int v35, .int v36, .ref m37, .ref m38, .ref m39, .ref m40, .long v41])), (m17, .inl (k 0, 30, .inl f17)), (m20, .inl (k 0, 120, .inl f20)), (m37, .inl (k 0, 6, .inl o_36)), (m38, .inl (k 0, 6, .inl o_37))] := hD
            generalize H1 = H at hP hS ⊢
            have hw_38 : (0 ≤ r_35.toInt ∧ r_35.toInt ≤ 1) := hw
            have hw_39 := hw_38
            clear hw
            refine lv_if_eq (tgt := 104) hx hb dX12_packs_99 (by decide) (fun h_40 => ?_) (fun h_40 => ?_)
            · skip
              have zh_40 : r_35.toInt = 0 := z_eq h_40
              refine lv_aload_n hx hb dX12_packs_104 rfl (lv_at hl 0 rfl) ?_
              refine va_get (D := D) (ci := 12) (v := .ref m37) (C := RX12) (T := TX12) (N := 42) hx hb hts iT_X12 hown hK hP 0 rfl rfl 37 (by decide) (hts _ tw_6_90) (fun _ h9 => h9) rfl dX12_packs_105 ?_
              refine lv_iload hx hb dX12_packs_108 (lv_at hl 4 rfl) ?_
              refine lv_dup2_11 hx hb dX12_packs_110 rfl rfl ?_
              refine va_iald hx hb hK hP 3 0 rfl rfl (z_in (by omega) (by omega)) dX12_packs_111 ?_
              refine lv_topi (fun x_41 ex_41 => ?_)
              refine lv_aload_n hx hb dX12_packs_112 rfl (lv_at hl 0 rfl) ?_
              refine va_get (D := D) (ci := 12) (v := .ref m20) (C := RX12) (T := TX12) (N := 42) hx hb hts iT_X12 hown hK hP 0 rfl rfl 20 (by decide) (hts _ tw_6_73) (fun _ h9 => h9) rfl dX12_packs_113 ?_
              refine lv_iconst (v := 4) hx hb dX12_packs_116 (by decide) ?_
              refine lv_iload_n hx hb dX12_packs_117 rfl (lv_at hl 1 rfl) ?_
              refine lv_imul hx hb dX12_packs_118 ?_
              refine lv_topi (fun x_42 ex_42 => ?_)
              obtain rfl : x_42 = 8 := ex_42.trans (by decide)
              refine lv_iconst (v := 3) hx hb dX12_packs_119 (by decide) ?_
              refine lv_iadd hx hb dX12_packs_120 ?_
              refine lv_topi (fun x_43 ex_43 => ?_)
              obtain rfl : x_43 = 11 := ex_43.trans (by decide)
              refine va_iald hx hb hK hP 2 0 rfl rfl (z_in (by decide) (by decide)) dX12_packs_121 ?_
              refine lv_topi (fun x_44 ex_44 => ?_)
              obtain rfl : x_10 = x_44 := ex_10.trans ex_44.symm
              refine lv_iadd hx hb dX12_packs_122 ?_
              refine lv_topi (fun x_45 ex_45 => ?_)
              have zrx_41 := z_rng x_41
              refine va_iast hx hb hK hP hD hS 3 0 rfl rfl (z_in (by omega) (by omega)) dX12_packs_123 (fun H locs hP hD hS => ?_)
              obtain ⟨g_46, eg_46⟩ : ∃ z : Nat → Int32, upd o_36 L15l4.toNatClampNeg x_45 = z := ⟨_, rfl⟩
              have hP : va_P D vwCl [(mo, .inr (12, [.int v0, .ref m1, .ref m2, .ref m3, .ref m4, .ref m5, .int v6, .int v7, .int v8, .int v9, .int v10, .long v11, .int v12, .int v13, .int v14, .int v15, .ref m16, .ref m17, .ref m18, .ref m19, .ref m20, .ref m21, .ref m22, .ref m23, .int v24, .ref m25, .ref m26, .ref m27, .ref m28, .ref m29, .int v30, .ref m31, .ref m32, .ref m33, .int v34, .int v35, .int v36, .ref m37, .ref m38, .ref m39, .ref m40, .long v41])), (m17, .inl (k 0, 30, .inl f17)), (m20, .inl (k 0, 120, .inl f20)), (m37, .inl (k 0, 6, .inl (upd o_36 L15l4.toNatClampNeg x_45))), (m38, .inl (k 0, 6, .inl o_37))] H := hP
              have hD : va_D A [(mo, .inr (12, [.int v0, .ref m1, .ref m2, .ref m3, .ref m4, .ref m5, .int v6, .int v7, .int v8, .int v9, .int v10, .long v11, .int v12, .int v13, .int v14, .int v15, .ref m16, .ref m17, .ref m18, .ref m19, .ref m20, .ref m21, .ref m22, .ref m23, .int v24, .ref m25, .ref m26, .ref m27, .ref m28, .ref m29, .int v30, .ref m31, .ref m32, .ref m33, .int v34, .int v35, .int v36, .ref m37, .ref m38, .ref m39, .ref m40, .long v41])), (m17, .inl (k 0, 30, .inl f17)), (m20, .inl (k 0, 120, .inl f20)), (m37, .inl (k 0, 6, .inl (upd o_36 L15l4.toNatClampNeg x_45))), (m38, .inl (k 0, 6, .inl o_37))] := hD
              rw [eg_46] at hP hD
              obtain ⟨x_47, ex_47⟩ : ∃ y : Int32, y = L15l4 + 1 := ⟨_, rfl⟩
              have zx_47 : x_47.toInt = L15l4.toInt + 1 := by rw [ex_47]; exact z_add rfl rfl (by omega) (by omega)
              refine lv_iinc (v := x_47) (lv' := [(4, .int x_47), (0, .ref mo), (1, .int 2), (2, .int p1), (3, .int p2)]) hx hb dX12_packs_124 hl (k := 4) rfl (by rw [ex_47]; rfl) (by decide) rfl (fun ls hl => ?_)
              refine lv_goto (tgt := 15) hx hb dX12_packs_127 (by decide) ?_
              exact ih_3 _ _ _ _ (by omega) ⟨x_47, g_46, o_37, rfl, (show 0 ≤ x_47.toInt ∧ x_47.toInt ≤ 3 from by omega), hP.sub (ws' := [(mo, .inr (12, [.int v0, .ref m1, .ref m2, .ref m3, .ref m4, .ref m5, .int v6, .int v7, .int v8, .int v9, .int v10, .long v11, .int v12, .int v13, .int v14, .int v15, .ref m16, .ref m17, .ref m18, .ref m19, .ref m20, .ref m21, .ref m22, .ref m23, .int v24, .ref m25, .ref m26, .ref m27, .ref m28, .ref m29, .int v30, .ref m31, .ref m32, .ref m33, .int v34, .int v35, .int v36, .ref m37, .ref m38, .ref m39, .ref m40, .long v41])), (m17, .inl (k 0, 30, .inl f17)), (m20, .inl (k 0, 120, .inl f20)), (m37, .inl (k 0, 6, .inl g_46)), (m38, .inl (k 0, 6, .inl o_37))]) [0, 1, 2, 3, 4] rfl, hD.sub (ws' := [(mo, .inr (12, [.int v0, .ref m1, .ref m2, .ref m3, .ref m4, .ref m5, .int v6, .int v7, .int v8, .int v9, .int v10, .long v11, .int v12, .int v13, .int v14, .int v15, .ref m16, .ref m17, .ref m18, .ref m19, .ref m20, .ref m21, .ref m22, .ref m23, .int v24, .ref m25, .ref m26, .ref m27, .ref m28, .ref m29, .int v30, .ref m31, .ref m32, .ref m33, .int v34, .int v35, .int v36, .ref m37, .ref m38, .ref m39, .ref m40, .long v41])), (m17, .inl (k 0, 30, .inl f17)), (m20, .inl (k 0, 120, .inl f20)), (m37, .inl (k 0, 6, .inl g_46)), (m38, .inl (k 0, 6, .inl o_37))]) [0, 1, 2, 3, 4] (by decide +kernel) rfl, hS, lv_sub hl [1, 2, 3, 4, 0] rfl⟩
            · skip
              have zh_40 : ¬ r_35.toInt = 0 := z_ne h_40
              refine lv_iconst (v := 1) hx hb dX12_packs_102 (by decide) ?_
              obtain ⟨hP9, hD9⟩ := sub2 hP hD (ws' := [(mo, .inr (12, [.int v0, .ref m1, .ref m2, .ref m3, .ref m4, .ref m5, .int v6, .int v7, .int v8, .int v9, .int v10, .long v11, .int v12, .int v13, .int v14, .int v15, .ref m16, .ref m17, .ref m18, .ref m19, .ref m20, .ref m21, .ref m22, .ref m23, .int v24, .ref m25, .ref m26, .ref m27, .ref m28, .ref m29, .int v30, .ref m31, .ref m32, .ref m33, .int v34, .int v35, .int v36, .ref m37, .ref m38, .ref m39, .ref m40, .long v41])), (m17, .inl (k 0, 30, .inl f17)), (m20, .inl (k 0, 120, .inl f20)), (m37, .inl (k 0, 6, .inl o_36)), (m38, .inl (k 0, 6, .inl o_37))]) [0, 1, 2, 3, 4] (by decide +kernel) rfl
              exact W.zret (v := 1) hx hb hr (by decide) (fun tZ ht hW => ⟨⟨1, (o_36, o_37), rfl, (show 0 ≤ 1 ∧ 1 ≤ 1 from by omega), by rw [ht]; exact hP9, va_K.moved hW.alike hK, hD9⟩, hS.F ht⟩) hS.2.2 dX12_packs_103
        · skip
          have zh_11 : x_7.toInt < x_10.toInt := z_nle h_11
          refine lv_goto (tgt := 124) hx hb dX12_packs_47 (by decide) ?_
          obtain ⟨x_48, ex_48⟩ : ∃ y : Int32, y = L15l4 + 1 := ⟨_, rfl⟩
          have zx_48 : x_48.toInt = L15l4.toInt + 1 := by rw [ex_48]; exact z_add rfl rfl (by omega) (by omega)
          refine lv_iinc (v := x_48) (lv' := [(4, .int x_48), (0, .ref mo), (1, .int 2), (2, .int p1), (3, .int p2)]) hx hb dX12_packs_124 hl (k := 4) rfl (by rw [ex_48]; rfl) (by decide) rfl (fun ls hl => ?_)
          refine lv_goto (tgt := 15) hx hb dX12_packs_127 (by decide) ?_
          exact ih_3 _ _ _ _ (by omega) ⟨x_48, L15a3, L15a4, rfl, (show 0 ≤ x_48.toInt ∧ x_48.toInt ≤ 3 from by omega), hP.sub (ws' := [(mo, .inr (12, [.int v0, .ref m1, .ref m2, .ref m3, .ref m4, .ref m5, .int v6, .int v7, .int v8, .int v9, .int v10, .long v11, .int v12, .int v13, .int v14, .int v15, .ref m16, .ref m17, .ref m18, .ref m19, .ref m20, .ref m21, .ref m22, .ref m23, .int v24, .ref m25, .ref m26, .ref m27, .ref m28, .ref m29, .int v30, .ref m31, .ref m32, .ref m33, .int v34, .int v35, .int v36, .ref m37, .ref m38, .ref m39, .ref m40, .long v41])), (m17, .inl (k 0, 30, .inl f17)), (m20, .inl (k 0, 120, .inl f20)), (m37, .inl (k 0, 6, .inl L15a3)), (m38, .inl (k 0, 6, .inl L15a4))]) [0, 1, 2, 3, 4] rfl, hD.sub (ws' := [(mo, .inr (12, [.int v0, .ref m1, .ref m2, .ref m3, .ref m4, .ref m5, .int v6, .int v7, .int v8, .int v9, .int v10, .long v11, .int v12, .int v13, .int v14, .int v15, .ref m16, .ref m17, .ref m18, .ref m19, .ref m20, .ref m21, .ref m22, .ref m23, .int v24, .ref m25, .ref m26, .ref m27, .ref m28, .ref m29, .int v30, .ref m31, .ref m32, .ref m33, .int v34, .int v35, .int v36, .ref m37, .ref m38, .ref m39, .ref m40, .long v41])), (m17, .inl (k 0, 30, .inl f17)), (m20, .inl (k 0, 120, .inl f20)), (m37, .inl (k 0, 6, .inl L15a3)), (m38, .inl (k 0, 6, .inl L15a4))]) [0, 1, 2, 3, 4] (by decide +kernel) rfl, hS, lv_sub hl [1, 2, 3, 4, 0] rfl⟩
  · skip
    have zh_2 : 2 = x_1.toInt := z_eq h_2
    refine lv_iconst (v := 1) hx hb dX12_packs_10 (by decide) ?_
    obtain ⟨hP9, hD9⟩ := sub2 hP hD (ws' := [(mo, .inr (12, [.int v0, .ref m1, .ref m2, .ref m3, .ref m4, .ref m5, .int v6, .int v7, .int v8, .int v9, .int v10, .long v11, .int v12, .int v13, .int v14, .int v15, .ref m16, .ref m17, .ref m18, .ref m19, .ref m20, .ref m21, .ref m22, .ref m23, .int v24, .ref m25, .ref m26, .ref m27, .ref m28, .ref m29, .int v30, .ref m31, .ref m32, .ref m33, .int v34, .int v35, .int v36, .ref m37, .ref m38, .ref m39, .ref m40, .long v41])), (m17, .inl (k 0, 30, .inl f17)), (m20, .inl (k 0, 120, .inl f20)), (m37, .inl (k 0, 6, .inl f37)), (m38, .inl (k 0, 6, .inl f38))]) [0, 1, 2, 3, 4] (by decide +kernel) rfl
    exact W.zret (v := 1) hx hb hr (by decide) (fun tZ ht hW => ⟨⟨1, (f37, f38), rfl, (show 0 ≤ 1 ∧ 1 ≤ 1 from by omega), by rw [ht]; exact hP9, va_K.moved hW.alike hK, hD9⟩, hS.F ht⟩) hS.2.2 dX12_packs_11
set_option maxHeartbeats 4000000 in
set_option maxRecDepth 100000 in
theorem c_X12_packs_5 (l : Launch) (D : va_G) (k : Nat → ClassId) (mo : Nat) (p1 : Int32) (p2 : Int32) (v0 : Int32) (m1 : Nat) (m2 : Nat) (m3 : Nat) (m4 : Nat) (m5 : Nat) (v6 : Int32) (v7 : Int32) (v8 : Int32) (v9 : Int32) (v10 : Int32) (v11 : Int64) (v12 : Int32) (v13 : Int32) (v14 : Int32) (v15 : Int32) (m16 : Nat) (m17 : Nat) (m18 : Nat) (m19 : Nat) (m20 : Nat) (m21 : Nat) (m22 : Nat) (m23 : Nat) (v24 : Int32) (m25 : Nat) (m26 : Nat) (m27 : Nat) (m28 : Nat) (m29 : Nat) (v30 : Int32) (m31 : Nat) (m32 : Nat) (m33 : Nat) (v34 : Int32) (v35 : Int32) (v36 : Int32) (m37 : Nat) (m38 : Nat) (m39 : Nat) (m40 : Nat) (v41 : Int64) (f17 : Nat → Int32) (f20 : Nat → Int32) (f37 : Nat → Int32) (f38 : Nat → Int32) (sz : Nat) (h_p1 : 0 ≤ p1.toInt ∧ p1.toInt ≤ 1) (h_p2 : 0 ≤ p2.toInt ∧ p2.toInt ≤ 6) (h_v6 : 0 ≤ v6.toInt ∧ v6.toInt ≤ 1000) (h_v24 : 0 ≤ v24.toInt ∧ v24.toInt ≤ 1023) (hp_f17_0 : PR 30 6 0 0 8 f17) (hp_f17_1 : PR 30 6 1 0 10 f17) (hp_f17_2 : PR 30 6 2 0 4 f17) (hp_f17_3 : PR 30 6 3 0 6 f17) (hp_f17_4 : PR 30 6 4 0 2 f17) (hp_f17_5 : PR 30 6 5 0 40 f17) (hp_f20_0 : PR 120 4 0 0 7 f20) (hh : 1 ≤ (f17 3).toInt) : Met l yX12_packs (ww yX12_packs cX12_packs 5 (some .boolean)) ({ frames := 5, cells := 0, slots := 0, locals := 120 }) (Pre0 D k [(mo, .inr (12, [.int v0, .ref m1, .ref m2, .ref m3, .ref m4, .ref m5, .int v6, .int v7, .int v8, .int v9, .int v10, .long v11, .int v12, .int v13, .int v14, .int v15, .ref m16, .ref m17, .ref m18, .ref m19, .ref m20, .ref m21, .ref m22, .ref m23, .int v24, .ref m25, .ref m26, .ref m27, .ref m28, .ref m29, .int v30, .ref m31, .ref m32, .ref m33, .int v34, .int v35, .int v36, .ref m37, .ref m38, .ref m39, .ref m40, .long v41])), (m17, .inl (k 0, 30, .inl f17)), (m20, .inl (k 0, 120, .inl f20)), (m37, .inl (k 0, 6, .inl f37)), (m38, .inl (k 0, 6, .inl f38))] sz [.ref mo, .int 1, .int p1, .int p2]) (va_Qi (fun (r : Int32) (u : (Nat → Int32) × (Nat → Int32)) => match u with | (f37z, f38z) => (0 ≤ r.toInt ∧ r.toInt ≤ 1)) (fun (u : (Nat → Int32) × (Nat → Int32)) tZ => match u with | (f37z, f38z) => Bw D k (va_A [(mo, .inr (12, [.int v0, .ref m1, .ref m2, .ref m3, .ref m4, .ref m5, .int v6, .int v7, .int v8, .int v9, .int v10, .long v11, .int v12, .int v13, .int v14, .int v15, .ref m16, .ref m17, .ref m18, .ref m19, .ref m20, .ref m21, .ref m22, .ref m23, .int v24, .ref m25, .ref m26, .ref m27, .ref m28, .ref m29, .int v30, .ref m31, .ref m32, .ref m33, .int v34, .int v35, .int v36, .ref m37, .ref m38, .ref m39, .ref m40, .long v41])), (m17, .inl (k 0, 30, .inl f17)), (m20, .inl (k 0, 120, .inl f20)), (m37, .inl (k 0, 6, .inl f37)), (m38, .inl (k 0, 6, .inl f38))] sz) [(mo, .inr (12, [.int v0, .ref m1, .ref m2, .ref m3, .ref m4, .ref m5, .int v6, .int v7, .int v8, .int v9, .int v10, .long v11, .int v12, .int v13, .int v14, .int v15, .ref m16, .ref m17, .ref m18, .ref m19, .ref m20, .ref m21, .ref m22, .ref m23, .int v24, .ref m25, .ref m26, .ref m27, .ref m28, .ref m29, .int v30, .ref m31, .ref m32, .ref m33, .int v34, .int v35, .int v36, .ref m37, .ref m38, .ref m39, .ref m40, .long v41])), (m17, .inl (k 0, 30, .inl f17)), (m20, .inl (k 0, 120, .inl f20)), (m37, .inl (k 0, 6, .inl f37z)), (m38, .inl (k 0, 6, .inl f38z))] tZ) (va_A [(mo, .inr (12, [.int v0, .ref m1, .ref m2, .ref m3, .ref m4, .ref m5, .int v6, .int v7, .int v8, .int v9, .int v10, .long v11, .int v12, .int v13, .int v14, .int v15, .ref m16, .ref m17, .ref m18, .ref m19, .ref m20, .ref m21, .ref m22, .ref m23, .int v24, .ref m25, .ref m26, .ref m27, .ref m28, .ref m29, .int v30, .ref m31, .ref m32, .ref m33, .int v34, .int v35, .int v36, .ref m37, .ref m38, .ref m39, .ref m40, .long v41])), (m17, .inl (k 0, 30, .inl f17)), (m20, .inl (k 0, 120, .inl f20)), (m37, .inl (k 0, 6, .inl f37)), (m38, .inl (k 0, 6, .inl f38))] sz)) 0 0 (va_A [(mo, .inr (12, [.int v0, .ref m1, .ref m2, .ref m3, .ref m4, .ref m5, .int v6, .int v7, .int v8, .int v9, .int v10, .long v11, .int v12, .int v13, .int v14, .int v15, .ref m16, .ref m17, .ref m18, .ref m19, .ref m20, .ref m21, .ref m22, .ref m23, .int v24, .ref m25, .ref m26, .ref m27, .ref m28, .ref m29, .int v30, .ref m31, .ref m32, .ref m33, .int v34, .int v35, .int v36, .ref m37, .ref m38, .ref m39, .ref m40, .long v41])), (m17, .inl (k 0, 30, .inl f17)), (m20, .inl (k 0, 120, .inl f20)), (m37, .inl (k 0, 6, .inl f37)), (m38, .inl (k 0, 6, .inl f38))] sz) := by
  refine Met.ofW (cc := cX12_packs) (maxL := 5) (ret := (some .boolean)) (by decide +kernel) rfl ?_
  intro p e s m args below meth c s₁ B hml hv
  obtain ⟨rfl, hsz, hP, hK, hD0, hN⟩ := hv
  have hx := B.exec
  have hb := B.bytes
  have hr := B.returns
  have hts : ∀ w ∈ TT, w.before _ s = true := fun w h => atoms_spec (ws := ww yX12_packs cX12_packs 5 (some .boolean)) B.pre w (List.mem_cons_of_mem _ h)
  have hown : s.vm.findClass RX12 = some m.cls := findClass_of_methodNamed B.named
  have hlocks := B.notSynchronized
  subst hsz
  have hD := hD0.self (sz := s.heap.size)
  generalize hAe : va_A [(mo, .inr (12, [.int v0, .ref m1, .ref m2, .ref m3, .ref m4, .ref m5, .int v6, .int v7, .int v8, .int v9, .int v10, .long v11, .int v12, .int v13, .int v14, .int v15, .ref m16, .ref m17, .ref m18, .ref m19, .ref m20, .ref m21, .ref m22, .ref m23, .int v24, .ref m25, .ref m26, .ref m27, .ref m28, .ref m29, .int v30, .ref m31, .ref m32, .ref m33, .int v34, .int v35, .int v36, .ref m37, .ref m38, .ref m39, .ref m40, .long v41])), (m17, .inl (k 0, 30, .inl f17)), (m20, .inl (k 0, 120, .inl f20)), (m37, .inl (k 0, 6, .inl f37)), (m38, .inl (k 0, 6, .inl f38))] s.heap.size = A at hD ⊢
  have hA : ∀ q : Nat, s.heap.size ≤ q → A q := fun q h => by rw [← hAe]; exact Or.inr h
  have hS : va_S A s.heap s.heap [] := va_S.rf
  have hl := lv_entry ([.ref mo, .int 1, .int p1, .int p2]) (n := 5) (Nat.le_of_ble_eq_true rfl)
  rw [lg_entry_eq]
  generalize (lg_sl ([.ref mo, .int 1, .int p1, .int p2]) ++ List.replicate (5 - (lg_sl ([.ref mo, .int 1, .int p1, .int p2])).length) Slot.unset).toArray = ls at hl ⊢
  have hl : lv_has ls 5 [(0, .ref mo), (1, .int 1), (2, .int p1), (3, .int p2)] := hl
  refine lv_iload_n hx hb dX12_packs_0 rfl (lv_at hl 1 rfl) ?_
  refine lv_aload_n hx hb dX12_packs_1 rfl (lv_at hl 0 rfl) ?_
  refine va_get (D := D) (ci := 12) (v := .ref m17) (C := RX12) (T := TX12) (N := 42) hx hb hts iT_X12 hown hK hP 0 rfl rfl 17 (by decide) (hts _ tw_6_70) (fun _ h9 => h9) rfl dX12_packs_2 ?_
  refine lv_iconst (v := 3) hx hb dX12_packs_5 (by decide) ?_
  refine va_iald hx hb hK hP 1 0 rfl rfl (z_in (by decide) (by decide)) dX12_packs_6 ?_
  refine lv_topi (fun x_1 ex_1 => ?_)
  have zx_1r3 : 0 ≤ x_1.toInt ∧ x_1.toInt ≤ 6 := by rw [ex_1]; exact PR.ld hp_f17_3 (by decide) (by decide) (by decide)
  have zpx_1 : 1 ≤ x_1.toInt := by rw [ex_1]; exact hh
  refine lv_icmp_ne (tgt := 12) hx hb dX12_packs_7 (by decide) (fun h_2 => ?_) (fun h_2 => ?_)
  · skip
    have zh_2 : ¬ 1 = x_1.toInt := z_ne h_2
    refine lv_iconst (v := 0) hx hb dX12_packs_12 (by decide) ?_
    refine lv_istore (lv' := [(4, .int 0), (0, .ref mo), (1, .int 1), (2, .int p1), (3, .int p2)]) hx hb dX12_packs_13 hl (by decide) rfl (fun ls hl => ?_)
    refine loop_r (Wg := fun H locs ls => W p l e _ s m _ below meth c H locs _ _ _ (F0 m 15 ls [])) (fun n9 H locs ls => ∃ (L15l4 : Int32) (L15a3 : Nat → Int32) (L15a4 : Nat → Int32), n9 = (2 - L15l4.toInt).toNat ∧ (0 ≤ L15l4.toInt ∧ L15l4.toInt ≤ 2) ∧ va_P D vwCl [(mo, .inr (12, [.int v0, .ref m1, .ref m2, .ref m3, .ref m4, .ref m5, .int v6, .int v7, .int v8, .int v9, .int v10, .long v11, .int v12, .int v13, .int v14, .int v15, .ref m16, .ref m17, .ref m18, .ref m19, .ref m20, .ref m21, .ref m22, .ref m23, .int v24, .ref m25, .ref m26, .ref m27, .ref m28, .ref m29, .int v30, .ref m31, .ref m32, .ref m33, .int v34, .int v35, .int v36, .ref m37, .ref m38, .ref m39, .ref m40, .long v41])), (m17, .inl (k 0, 30, .inl f17)), (m20, .inl (k 0, 120, .inl f20)), (m37, .inl (k 0, 6, .inl L15a3)), (m38, .inl (k 0, 6, .inl L15a4))] H ∧ va_D A [(mo, .inr (12, [.int v0, .ref m1, .ref m2, .ref m3, .ref m4, .ref m5, .int v6, .int v7, .int v8, .int v9, .int v10, .long v11, .int v12, .int v13, .int v14, .int v15, .ref m16, .ref m17, .ref m18, .ref m19, .ref m20, .ref m21, .ref m22, .ref m23, .int v24, .ref m25, .ref m26, .ref m27, .ref m28, .ref m29, .int v30, .ref m31, .ref m32, .ref m33, .int v34, .int v35, .int v36, .ref m37, .ref m38, .ref m39, .ref m40, .long v41])), (m17, .inl (k 0, 30, .inl f17)), (m20, .inl (k 0, 120, .inl f20)), (m37, .inl (k 0, 6, .inl L15a3)), (m38, .inl (k 0, 6, .inl L15a4))] ∧ va_S A s.heap H locs ∧ lv_has ls 5 [(0, .ref mo), (1, .int 1), (2, .int p1), (3, .int p2), (4, .int L15l4)]) (fun n9 H locs ls hI ih_3 => ?_) _ _ _ _ ⟨0, f37, f38, rfl, (show 0 ≤ 0 ∧ 0 ≤ 2 from by omega), hP.sub (ws' := [(mo, .inr (12, [.int v0, .ref m1, .ref m2, .ref m3, .ref m4, .ref m5, .int v6, .int v7, .int v8, .int v9, .int v10, .long v11, .int v12, .int v13, .int v14, .int v15, .ref m16, .ref m17, .ref m18, .ref m19, .ref m20, .ref m21, .ref m22, .ref m23, .int v24, .ref m25, .ref m26, .ref m27, .ref m28, .ref m29, .int v30, .ref m31, .ref m32, .ref m33, .int v34, .int v35, .int v36, .ref m37, .ref m38, .ref m39, .ref m40, .long v41])), (m17, .inl (k 0, 30, .inl f17)), (m20, .inl (k 0, 120, .inl f20)), (m37, .inl (k 0, 6, .inl f37)), (m38, .inl (k 0, 6, .inl f38))]) [0, 1, 2, 3, 4] rfl, hD.sub (ws' := [(mo, .inr (12, [.int v0, .ref m1, .ref m2, .ref m3, .ref m4, .ref m5, .int v6, .int v7, .int v8, .int v9, .int v10, .long v11, .int v12, .int v13, .int v14, .int v15, .ref m16, .ref m17, .ref m18, .ref m19, .ref m20, .ref m21, .ref m22, .ref m23, .int v24, .ref m25, .ref m26, .ref m27, .ref m28, .ref m29, .int v30, .ref m31, .ref m32, .ref m33, .int v34, .int v35, .int v36, .ref m37, .ref m38, .ref m39, .ref m40, .long v41])), (m17, .inl (k 0, 30, .inl f17)), (m20, .inl (k 0, 120, .inl f20)), (m37, .inl (k 0, 6, .inl f37)), (m38, .inl (k 0, 6, .inl f38))]) [0, 1, 2, 3, 4] (by decide +kernel) rfl, hS, lv_sub hl [1, 2, 3, 4, 0] rfl⟩
    clear hP hD hS hl
    obtain ⟨L15l4, L15a3, L15a4, en_4, zL15l4, hP, hD, hS, hl⟩ := hI
    refine lv_iload hx hb dX12_packs_15 (lv_at hl 4 rfl) ?_
    refine lv_iload_n hx hb dX12_packs_17 rfl (lv_at hl 2 rfl) ?_
    refine lv_icmp_gt (tgt := 130) hx hb dX12_packs_18 (by decide) (fun h_5 => ?_) (fun h_5 => ?_)
    · skip
      have zh_5 : p1.toInt < L15l4.toInt := z_lt h_5
      refine lv_iconst (v := 0) hx hb dX12_packs_130 (by decide) ?_
      obtain ⟨hP9, hD9⟩ := sub2 hP hD (ws' := [(mo, .inr (12, [.int v0, .ref m1, .ref m2, .ref m3, .ref m4, .ref m5, .int v6, .int v7, .int v8, .int v9, .int v10, .long v11, .int v12, .int v13, .int v14, .int v15, .ref m16, .ref m17, .ref m18, .ref m19, .ref m20, .ref m21, .ref m22, .ref m23, .int v24, .ref m25, .ref m26, .ref m27, .ref m28, .ref m29, .int v30, .ref m31, .ref m32, .ref m33, .int v34, .int v35, .int v36, .ref m37, .ref m38, .ref m39, .ref m40, .long v41])), (m17, .inl (k 0, 30, .inl f17)), (m20, .inl (k 0, 120, .inl f20)), (m37, .inl (k 0, 6, .inl L15a3)), (m38, .inl (k 0, 6, .inl L15a4))]) [0, 1, 2, 3, 4] (by decide +kernel) rfl
      exact W.zret (v := 0) hx hb hr (by decide) (fun tZ ht hW => ⟨⟨0, (L15a3, L15a4), rfl, (show 0 ≤ 0 ∧ 0 ≤ 1 from by omega), by rw [ht]; exact hP9, va_K.moved hW.alike hK, hD9⟩, hS.F ht⟩) hS.2.2 dX12_packs_131
    · skip
      have zh_5 : L15l4.toInt ≤ p1.toInt := z_nlt h_5
      refine lv_iload hx hb dX12_packs_21 (lv_at hl 4 rfl) ?_
      refine lv_iload_n hx hb dX12_packs_23 rfl (lv_at hl 3 rfl) ?_
      refine lv_icmp_ge (tgt := 130) hx hb dX12_packs_24 (by decide) (fun h_6 => ?_) (fun h_6 => ?_)
      · skip
        have zh_6 : p2.toInt ≤ L15l4.toInt := z_le h_6
        refine lv_iconst (v := 0) hx hb dX12_packs_130 (by decide) ?_
        obtain ⟨hP9, hD9⟩ := sub2 hP hD (ws' := [(mo, .inr (12, [.int v0, .ref m1, .ref m2, .ref m3, .ref m4, .ref m5, .int v6, .int v7, .int v8, .int v9, .int v10, .long v11, .int v12, .int v13, .int v14, .int v15, .ref m16, .ref m17, .ref m18, .ref m19, .ref m20, .ref m21, .ref m22, .ref m23, .int v24, .ref m25, .ref m26, .ref m27, .ref m28, .ref m29, .int v30, .ref m31, .ref m32, .ref m33, .int v34, .int v35, .int v36, .ref m37, .ref m38, .ref m39, .ref m40, .long v41])), (m17, .inl (k 0, 30, .inl f17)), (m20, .inl (k 0, 120, .inl f20)), (m37, .inl (k 0, 6, .inl L15a3)), (m38, .inl (k 0, 6, .inl L15a4))]) [0, 1, 2, 3, 4] (by decide +kernel) rfl
        exact W.zret (v := 0) hx hb hr (by decide) (fun tZ ht hW => ⟨⟨0, (L15a3, L15a4), rfl, (show 0 ≤ 0 ∧ 0 ≤ 1 from by omega), by rw [ht]; exact hP9, va_K.moved hW.alike hK, hD9⟩, hS.F ht⟩) hS.2.2 dX12_packs_131
      · skip
        have zh_6 : L15l4.toInt < p2.toInt := z_nle h_6
        refine lv_aload_n hx hb dX12_packs_27 rfl (lv_at hl 0 rfl) ?_
        refine va_get (D := D) (ci := 12) (v := .ref m37) (C := RX12) (T := TX12) (N := 42) hx hb hts iT_X12 hown hK hP 0 rfl rfl 37 (by decide) (hts _ tw_6_90) (fun _ h9 => h9) rfl dX12_packs_28 ?_
        refine lv_iload hx hb dX12_packs_31 (lv_at hl 4 rfl) ?_
        refine va_iald hx hb hK hP 3 0 rfl rfl (z_in (by omega) (by omega)) dX12_packs_33 ?_
        refine lv_topi (fun x_7 ex_7 => ?_)
        refine lv_aload_n hx hb dX12_packs_34 rfl (lv_at hl 0 rfl) ?_
        refine va_get (D := D) (ci := 12) (v := .ref m20) (C := RX12) (T := TX12) (N := 42) hx hb hts iT_X12 hown hK hP 0 rfl rfl 20 (by decide) (hts _ tw_6_73) (fun _ h9 => h9) rfl dX12_packs_35 ?_
        refine lv_iconst (v := 4) hx hb dX12_packs_38 (by decide) ?_
        refine lv_iload_n hx hb dX12_packs_39 rfl (lv_at hl 1 rfl) ?_
        refine lv_imul hx hb dX12_packs_40 ?_
        refine lv_topi (fun x_8 ex_8 => ?_)
        obtain rfl : x_8 = 4 := ex_8.trans (by decide)
        refine lv_iconst (v := 3) hx hb dX12_packs_41 (by decide) ?_
        refine lv_iadd hx hb dX12_packs_42 ?_
        refine lv_topi (fun x_9 ex_9 => ?_)
        obtain rfl : x_9 = 7 := ex_9.trans (by decide)
        refine va_iald hx hb hK hP 2 0 rfl rfl (z_in (by decide) (by decide)) dX12_packs_43 ?_
        refine lv_topi (fun x_10 ex_10 => ?_)
        refine lv_icmp_ge (tgt := 50) hx hb dX12_packs_44 (by decide) (fun h_11 => ?_) (fun h_11 => ?_)
        · skip
          have zh_11 : x_10.toInt ≤ x_7.toInt := z_le h_11
          refine lv_aload_n hx hb dX12_packs_50 rfl (lv_at hl 0 rfl) ?_
          refine va_get (D := D) (ci := 12) (v := .ref m37) (C := RX12) (T := TX12) (N := 42) hx hb hts iT_X12 hown hK hP 0 rfl rfl 37 (by decide) (hts _ tw_6_90) (fun _ h9 => h9) rfl dX12_packs_51 ?_
          refine lv_iload hx hb dX12_packs_54 (lv_at hl 4 rfl) ?_
          refine lv_dup2_11 hx hb dX12_packs_56 rfl rfl ?_
          refine va_iald hx hb hK hP 3 0 rfl rfl (z_in (by omega) (by omega)) dX12_packs_57 ?_
          refine lv_topi (fun x_12 ex_12 => ?_)
          obtain rfl : x_7 = x_12 := ex_7.trans ex_12.symm
          refine lv_aload_n hx hb dX12_packs_58 rfl (lv_at hl 0 rfl) ?_
          refine va_get (D := D) (ci := 12) (v := .ref m20) (C := RX12) (T := TX12) (N := 42) hx hb hts iT_X12 hown hK hP 0 rfl rfl 20 (by decide) (hts _ tw_6_73) (fun _ h9 => h9) rfl dX12_packs_59 ?_
          refine lv_iconst (v := 4) hx hb dX12_packs_62 (by decide) ?_
          refine lv_iload_n hx hb dX12_packs_63 rfl (lv_at hl 1 rfl) ?_
          refine lv_imul hx hb dX12_packs_64 ?_
          refine lv_topi (fun x_13 ex_13 => ?_)
          obtain rfl : x_13 = 4 := ex_13.trans (by decide)
          refine lv_iconst (v := 3) hx hb dX12_packs_65 (by decide) ?_
          refine lv_iadd hx hb dX12_packs_66 ?_
          refine lv_topi (fun x_14 ex_14 => ?_)
          obtain rfl : x_14 = 7 := ex_14.trans (by decide)
          refine va_iald hx hb hK hP 2 0 rfl rfl (z_in (by decide) (by decide)) dX12_packs_67 ?_
          refine lv_topi (fun x_15 ex_15 => ?_)
          obtain rfl : x_10 = x_15 := ex_10.trans ex_15.symm
          refine lv_isub hx hb dX12_packs_68 ?_
          refine lv_topi (fun x_16 ex_16 => ?_)
          have zrx_7 := z_rng x_7
          have zrx_10 := z_rng x_10
          refine va_iast hx hb hK hP hD hS 3 0 rfl rfl (z_in (by omega) (by omega)) dX12_packs_69 (fun H locs hP hD hS => ?_)
          obtain ⟨g_17, eg_17⟩ : ∃ z : Nat → Int32, upd L15a3 L15l4.toNatClampNeg x_16 = z := ⟨_, rfl⟩
          have hP : va_P D vwCl [(mo, .inr (12, [.int v0, .ref m1, .ref m2, .ref m3, .ref m4, .ref m5, .int v6, .int v7, .int v8, .int v9, .int v10, .long v11, .int v12, .int v13, .int v14, .int v15, .ref m16, .ref m17, .ref m18, .ref m19, .ref m20, .ref m21, .ref m22, .ref m23, .int v24, .ref m25, .ref m26, .ref m27, .ref m28, .ref m29, .int v30, .ref m31, .ref m32, .ref m33, .int v34, .int v35, .int v36, .ref m37, .ref m38, .ref m39, .ref m40, .long v41])), (m17, .inl (k 0, 30, .inl f17)), (m20, .inl (k 0, 120, .inl f20)), (m37, .inl (k 0, 6, .inl (upd L15a3 L15l4.toNatClampNeg x_16))), (m38, .inl (k 0, 6, .inl L15a4))] H := hP
          have hD : va_D A [(mo, .inr (12, [.int v0, .ref m1, .ref m2, .ref m3, .ref m4, .ref m5, .int v6, .int v7, .int v8, .int v9, .int v10, .long v11, .int v12, .int v13, .int v14, .int v15, .ref m16, .ref m17, .ref m18, .ref m19, .ref m20, .ref m21, .ref m22, .ref m23, .int v24, .ref m25, .ref m26, .ref m27, .ref m28, .ref m29, .int v30, .ref m31, .ref m32, .ref m33, .int v34, .int v35, .int v36, .ref m37, .ref m38, .ref m39, .ref m40, .long v41])), (m17, .inl (k 0, 30, .inl f17)), (m20, .inl (k 0, 120, .inl f20)), (m37, .inl (k 0, 6, .inl (upd L15a3 L15l4.toNatClampNeg x_16))), (m38, .inl (k 0, 6, .inl L15a4))] := hD
          rw [eg_17] at hP hD
          refine lv_aload_n hx hb dX12_packs_70 rfl (lv_at hl 0 rfl) ?_
          refine va_get (D := D) (ci := 12) (v := .ref m38) (C := RX12) (T := TX12) (N := 42) hx hb hts iT_X12 hown hK hP 0 rfl rfl 38 (by decide) (hts _ tw_6_91) (fun _ h9 => h9) rfl dX12_packs_71 ?_
          refine lv_iload_n hx hb dX12_packs_74 rfl (lv_at hl 1 rfl) ?_
          refine lv_iload hx hb dX12_packs_75 (lv_at hl 4 rfl) ?_
          refine va_iast hx hb hK hP hD hS 4 0 rfl rfl (z_in (by decide) (by decide)) dX12_packs_77 (fun H locs hP hD hS => ?_)
          obtain ⟨g_18, eg_18⟩ : ∃ z : Nat → Int32, upd L15a4 1 L15l4 = z := ⟨_, rfl⟩
          have hP : va_P D vwCl [(mo, .inr (12, [.int v0, .ref m1, .ref m2, .ref m3, .ref m4, .ref m5, .int v6, .int v7, .int v8, .int v9, .int v10, .long v11, .int v12, .int v13, .int v14, .int v15, .ref m16, .ref m17, .ref m18, .ref m19, .ref m20, .ref m21, .ref m22, .ref m23, .int v24, .ref m25, .ref m26, .ref m27, .ref m28, .ref m29, .int v30, .ref m31, .ref m32, .ref m33, .int v34, .int v35, .int v36, .ref m37, .ref m38, .ref m39, .ref m40, .long v41])), (m17, .inl (k 0, 30, .inl f17)), (m20, .inl (k 0, 120, .inl f20)), (m37, .inl (k 0, 6, .inl g_17)), (m38, .inl (k 0, 6, .inl (upd L15a4 1 L15l4)))] H := hP
          have hD : va_D A [(mo, .inr (12, [.int v0, .ref m1, .ref m2, .ref m3, .ref m4, .ref m5, .int v6, .int v7, .int v8, .int v9, .int v10, .long v11, .int v12, .int v13, .int v14, .int v15, .ref m16, .ref m17, .ref m18, .ref m19, .ref m20, .ref m21, .ref m22, .ref m23, .int v24, .ref m25, .ref m26, .ref m27, .ref m28, .ref m29, .int v30, .ref m31, .ref m32, .ref m33, .int v34, .int v35, .int v36, .ref m37, .ref m38, .ref m39, .ref m40, .long v41])), (m17, .inl (k 0, 30, .inl f17)), (m20, .inl (k 0, 120, .inl f20)), (m37, .inl (k 0, 6, .inl g_17)), (m38, .inl (k 0, 6, .inl (upd L15a4 1 L15l4)))] := hD
          rw [eg_18] at hP hD
          refine lv_aload_n hx hb dX12_packs_78 rfl (lv_at hl 0 rfl) ?_
          refine lv_iload_n hx hb dX12_packs_79 rfl (lv_at hl 1 rfl) ?_
          refine lv_iconst (v := 1) hx hb dX12_packs_80 (by decide) ?_
          refine lv_iadd hx hb dX12_packs_81 ?_
          refine lv_topi (fun x_19 ex_19 => ?_)
          obtain rfl : x_19 = 2 := ex_19.trans (by decide)
          refine lv_iload hx hb dX12_packs_82 (lv_at hl 4 rfl) ?_
          refine lv_iload_n hx hb dX12_packs_84 rfl (lv_at hl 2 rfl) ?_
          refine lv_icmp_ne (tgt := 94) hx hb dX12_packs_85 (by decide) (fun h_20 => ?_) (fun h_20 => ?_)
          · skip
            have zh_20 : ¬ L15l4.toInt = p1.toInt := z_ne h_20
            refine lv_iload_n hx hb dX12_packs_94 rfl (lv_at hl 2 rfl) ?_
            refine lv_iload_n hx hb dX12_packs_95 rfl (lv_at hl 3 rfl) ?_
            obtain ⟨hPc, hDc, hFc⟩ := sub3 hP hD hS hA (ws' := [(mo, .inr (12, [.int v0, .ref m1, .ref m2, .ref m3, .ref m4, .ref m5, .int v6, .int v7, .int v8, .int v9, .int v10, .long v11, .int v12, .int v13, .int v14, .int v15, .ref m16, .ref m17, .ref m18, .ref m19, .ref m20, .ref m21, .ref m22, .ref m23, .int v24, .ref m25, .ref m26, .ref m27, .ref m28, .ref m29, .int v30, .ref m31, .ref m32, .ref m33, .int v34, .int v35, .int v36, .ref m37, .ref m38, .ref m39, .ref m40, .long v41])), (m17, .inl (k 0, 30, .inl f17)), (m20, .inl (k 0, 120, .inl f20)), (m37, .inl (k 0, 6, .inl g_17)), (m38, .inl (k 0, 6, .inl g_18))]) [0, 1, 2, 3, 4] (by decide +kernel) rfl
            refine va_calli (va_runV (C := RX12) (As := [.int 2, .int p1, .int p2]) (rest := []) ⟨hx, hb, hml, hown, hts⟩ (c_X12_packs_4 l D k mo p1 p2 v0 m1 m2 m3 m4 m5 v6 v7 v8 v9 v10 v11 v12 v13 v14 v15 m16 m17 m18 m19 m20 m21 m22 m23 v24 m25 m26 m27 m28 m29 v30 m31 m32 m33 v34 v35 v36 m37 m38 m39 m40 v41 f17 f20 g_17 g_18 H.size (show 0 ≤ p1.toInt ∧ p1.toInt ≤ 2 from by omega) (show 0 ≤ p2.toInt ∧ p2.toInt ≤ 6 from by omega) (show 0 ≤ v6.toInt ∧ v6.toInt ≤ 1000 from by omega) (show 0 ≤ v24.toInt ∧ v24.toInt ≤ 1023 from by omega) hp_f17_0 hp_f17_1 hp_f17_2 hp_f17_3 hp_f17_4 hp_f17_5 hp_f20_0 (show 2 ≤ (f17 3).toInt from by rw [show f17 3 = x_1 from ex_1.symm]; omega)) (cwV 3 hts (gV tw_8_146 tw_8_148 tw_p_90 tw_1_13 tw_8_149) rfl rfl rfl hdV_X12_packs ⟨Nat.le_of_ble_eq_true rfl, Nat.le_of_ble_eq_true rfl⟩) (cz_V hK hPc hDc hN (ci := 12) (q0 := 0) rfl rfl [.int 2, .int p1, .int p2]) rfl rfl hl.1 rfl (lv_room (Nat.le_of_ble_eq_true rfl)) dX12_packs_96 ⟨Nat.le_of_ble_eq_true rfl, Nat.le_of_ble_eq_true rfl⟩) hS (fun q _ h => hFc q h) hFc (fun r_21 uZ tZ H1 locs ht hvm hw hB hz1 hk1 hS => ?_)
            obtain ⟨o_22, o_23⟩ := uZ
            obtain ⟨hP1, hK1, hD1⟩ := hB
            rw [ht] at hP1
            obtain ⟨hP, hD⟩ := va_join (wr := []) (w1 := [(mo, .inr (12, [.int v0, .ref m1, .ref m2, .ref m3, .ref m4, .ref m5, .int v6, .int v7, .int v8, .int v9, .int v10, .long v11, .int v12, .int v13, .int v14, .int v15, .ref m16, .ref m17, .ref m18, .ref m19, .ref m20, .ref m21, .ref m22, .ref m23, .int v24, .ref m25, .ref m26, .ref m27, .ref m28, .ref m29, .int v30, .ref m31, .ref m32, .ref m33, .int v34, .int v35, .int v36, .ref m37, .ref m38, .ref m39, .ref m40, .long v41])), (m17, .inl (k 0, 30, .inl f17)), (m20, .inl (k 0, 120, .inl f20)), (m37, .inl (k 0, 6, .inl o_22)), (m38, .inl (k 0, 6, .inl o_23))]) hP hD [0, 1, 2, 3, 4] [] rfl rfl (by decide +kernel) (by decide +kernel) hk1 hFc hP1 hD1
            clear hK1 hP1 hD1 hPc hDc hFc
            clear hk1 hz1 ht hvm
            have hP : va_P D vwCl [(mo, .inr (12, [.int v0, .ref m1, .ref m2, .ref m3, .ref m4, .ref m5, .int v6, .int v7, .int v8, .int v9, .int v10, .long v11, .int v12, .int v13, .int v14, .int v15, .ref m16, .ref m17, .ref m18, .ref m19, .ref m20, .ref m21, .ref m22, .ref m23, .int v24, .ref m25, .ref m26, .ref m27, .ref m28, .ref m29, .int v30, .ref m31, .ref m32, .ref m33, .int v34, .int v35, .int v36, .ref m37, .ref m38, .ref m39, .ref m40, .long v41])), (m17, .inl (k 0, 30, .inl f17)), (m20, .inl (k 0, 120, .inl f20)), (m37, .inl (k 0, 6, .inl o_22)), (m38, .inl (k 0, 6, .inl o_23))] H1 := hP
            have hD : va_D A [(mo, .inr (12, [.int v0, .ref m1, .ref m2, .ref m3, .ref m4, .ref m5, .int v6, .int v7, .int v8, .int v9, .int v10, .long v11, .int v12, .int v13, .int v14, .int v15, .ref m16, .ref m17, .ref m18, .ref m19, .ref m20, .ref m21, .ref m22, .ref m23, .int v24, .ref m25, .ref m26, .ref m27, .ref m28, .ref m29, .int v30, .ref m31, .ref m32, .ref m33, .int v34, .int v35, .int v36, .ref m37, .ref m38, .ref m39, .ref m40, .long v41])), (m17, .inl (k 0, 30, .inl f17)), (m20, .inl (k 0, 120, .inl f20)), (m37, .inl (k 0, 6, .inl o_22)), (m38, .inl (k 0, 6, .inl o_23))] := hD
            generalize H1 = H at hP hS ⊢
            have hw_24 : (0 ≤ r_21.toInt ∧ r_21.toInt ≤ 1) := hw
            have hw_25 := hw_24
            clear hw
            refine lv_if_eq (tgt := 104) hx hb dX12_packs_99 (by decide) (fun h_26 => ?_) (fun h_26 => ?_)
            · skip
              have zh_26 : r_21.toInt = 0 := z_eq h_26
              refine lv_aload_n hx hb dX12_packs_104 rfl (lv_at hl 0 rfl) ?_
              refine va_get (D := D) (ci := 12) (v := .ref m37) (C := RX12) (T := TX12) (N := 42) hx hb hts iT_X12 hown hK hP 0 rfl rfl 37 (by decide) (hts _ tw_6_90) (fun _ h9 => h9) rfl dX12_packs_105 ?_
              refine lv_iload hx hb dX12_packs_108 (lv_at hl 4 rfl) ?_
              refine lv_dup2_11 hx hb dX12_packs_110 rfl rfl ?_
              refine va_iald hx hb hK hP 3 0 rfl rfl (z_in (by omega) (by omega)) dX12_packs_111 ?_
              refine lv_topi (fun x_27 ex_27 => ?_)
              refine lv_aload_n hx hb dX12_packs_112 rfl (lv_at hl 0 rfl) ?_
              refine va_get (D := D) (ci := 12) (v := .ref m20) (C := RX12) (T := TX12) (N := 42) hx hb hts iT_X12 hown hK hP 0 rfl rfl 20 (by decide) (hts _ tw_6_73) (fun _ h9 => h9) rfl dX12_packs_113 ?_
              refine lv_iconst (v := 4) hx hb dX12_packs_116 (by decide) ?_
              refine lv_iload_n hx hb dX12_packs_117 rfl (lv_at hl 1 rfl) ?_
              refine lv_imul hx hb dX12_packs_118 ?_
              refine lv_topi (fun x_28 ex_28 => ?_)
              obtain rfl : x_28 = 4 := ex_28.trans (by decide)
              refine lv_iconst (v := 3) hx hb dX12_packs_119 (by decide) ?_
              refine lv_iadd hx hb dX12_packs_120 ?_
              refine lv_topi (fun x_29 ex_29 => ?_)
              obtain rfl : x_29 = 7 := ex_29.trans (by decide)
              refine va_iald hx hb hK hP 2 0 rfl rfl (z_in (by decide) (by decide)) dX12_packs_121 ?_
              refine lv_topi (fun x_30 ex_30 => ?_)
              obtain rfl : x_10 = x_30 := ex_10.trans ex_30.symm
              refine lv_iadd hx hb dX12_packs_122 ?_
              refine lv_topi (fun x_31 ex_31 => ?_)
              have zrx_27 := z_rng x_27
              refine va_iast hx hb hK hP hD hS 3 0 rfl rfl (z_in (by omega) (by omega)) dX12_packs_123 (fun H locs hP hD hS => ?_)
              obtain ⟨g_32, eg_32⟩ : ∃ z : Nat → Int32, upd o_22 L15l4.toNatClampNeg x_31 = z := ⟨_, rfl⟩
              have hP : va_P D vwCl [(mo, .inr (12, [.int v0, .ref m1, .ref m2, .ref m3, .ref m4, .ref m5, .int v6, .int v7, .int v8, .int v9, .int v10, .long v11, .int v12, .int v13, .int v14, .int v15, .ref m16, .ref m17, .ref m18, .ref m19, .ref m20, .ref m21, .ref m22, .ref m23, .int v24, .ref m25, .ref m26, .ref m27, .ref m28, .ref m29, .int v30, .ref m31, .ref m32, .ref m33, .int v34, .int v35, .int v36, .ref m37, .ref m38, .ref m39, .ref m40, .long v41])), (m17, .inl (k 0, 30, .inl f17)), (m20, .inl (k 0, 120, .inl f20)), (m37, .inl (k 0, 6, .inl (upd o_22 L15l4.toNatClampNeg x_31))), (m38, .inl (k 0, 6, .inl o_23))] H := hP
              have hD : va_D A [(mo, .inr (12, [.int v0, .ref m1, .ref m2, .ref m3, .ref m4, .ref m5, .int v6, .int v7, .int v8, .int v9, .int v10, .long v11, .int v12, .int v13, .int v14, .int v15, .ref m16, .ref m17, .ref m18, .ref m19, .ref m20, .ref m21, .ref m22, .ref m23, .int v24, .ref m25, .ref m26, .ref m27, .ref m28, .ref m29, .int v30, .ref m31, .ref m32, .ref m33, .int v34, .int v35, .int v36, .ref m37, .ref m38, .ref m39, .ref m40, .long v41])), (m17, .inl (k 0, 30, .inl f17)), (m20, .inl (k 0, 120, .inl f20)), (m37, .inl (k 0, 6, .inl (upd o_22 L15l4.toNatClampNeg x_31))), (m38, .inl (k 0, 6, .inl o_23))] := hD
              rw [eg_32] at hP hD
              obtain ⟨x_33, ex_33⟩ : ∃ y : Int32, y = L15l4 + 1 := ⟨_, rfl⟩
              have zx_33 : x_33.toInt = L15l4.toInt + 1 := by rw [ex_33]; exact z_add rfl rfl (by omega) (by omega)
              refine lv_iinc (v := x_33) (lv' := [(4, .int x_33), (0, .ref mo), (1, .int 1), (2, .int p1), (3, .int p2)]) hx hb dX12_packs_124 hl (k := 4) rfl (by rw [ex_33]; rfl) (by decide) rfl (fun ls hl => ?_)
              refine lv_goto (tgt := 15) hx hb dX12_packs_127 (by decide) ?_
              exact ih_3 _ _ _ _ (by omega) ⟨x_33, g_32, o_23, rfl, (show 0 ≤ x_33.toInt ∧ x_33.toInt ≤ 2 from by omega), hP.sub (ws' := [(mo, .inr (12, [.int v0, .ref m1, .ref m2, .ref m3, .ref m4, .ref m5, .int v6, .int v7, .int v8, .int v9, .int v10, .long v11, .int v12, .int v13, .int v14, .int v15, .ref m16, .ref m17, .ref m18, .ref m19, .ref m20, .ref m21, .ref m22, .ref m23, .int v24, .ref m25, .ref m26, .ref m27, .ref m28, .ref m29, .int v30, .ref m31, .ref m32, .ref m33, .int v34, .int v35, .int v36, .ref m37, .ref m38, .ref m39, .ref m40, .long v41])), (m17, .inl (k 0, 30, .inl f17)), (m20, .inl (k 0, 120, .inl f20)), (m37, .inl (k 0, 6, .inl g_32)), (m38, .inl (k 0, 6, .inl o_23))]) [0, 1, 2, 3, 4] rfl, hD.sub (ws' := [(mo, .inr (12, [.int v0, .ref m1, .ref m2, .ref m3, .ref m4, .ref m5, .int v6, .int v7, .int v8, .int v9, .int v10, .long v11, .int v12, .int v13, .int v14, .int v15, .ref m16, .ref m17, .ref m18, .ref m19, .ref m20, .ref m21, .ref m22, .ref m23, .int v24, .ref m25, .ref m26, .ref m27, .ref m28, .ref m29, .int v30, .ref m31, .ref m32, .ref m33, .int v34, .int v35, .int v36, .ref m37, .ref m38, .ref m39, .ref m40, .long v41])), (m17, .inl (k 0, 30, .inl f17)), (m20, .inl (k 0, 120, .inl f20)), (m37, .inl (k 0, 6, .inl g_32)), (m38, .inl (k 0, 6, .inl o_23))]) [0, 1, 2, 3, 4] (by decide +kernel) rfl, hS, lv_sub hl [1, 2, 3, 4, 0] rfl⟩
            · skip
              have zh_26 : ¬ r_21.toInt = 0 := z_ne h_26
              refine lv_iconst (v := 1) hx hb dX12_packs_102 (by decide) ?_
              obtain ⟨hP9, hD9⟩ := sub2 hP hD (ws' := [(mo, .inr (12, [.int v0, .ref m1, .ref m2, .ref m3, .ref m4, .ref m5, .int v6, .int v7, .int v8, .int v9, .int v10, .long v11, .int v12, .int v13, .int v14, .int v15, .ref m16, .ref m17, .ref m18, .ref m19, .ref m20, .ref m21, .ref m22, .ref m23, .int v24, .ref m25, .ref m26, .ref m27, .ref m28, .ref m29, .int v30, .ref m31, .ref m32, .ref m33, .int v34, .int v35, .int v36, .ref m37, .ref m38, .ref m39, .ref m40, .long v41])), (m17, .inl (k 0, 30, .inl f17)), (m20, .inl (k 0, 120, .inl f20)), (m37, .inl (k 0, 6, .inl o_22)), (m38, .inl (k 0, 6, .inl o_23))]) [0, 1, 2, 3, 4] (by decide +kernel) rfl
              exact W.zret (v := 1) hx hb hr (by decide) (fun tZ ht hW => ⟨⟨1, (o_22, o_23), rfl, (show 0 ≤ 1 ∧ 1 ≤ 1 from by omega), by rw [ht]; exact hP9, va_K.moved hW.alike hK, hD9⟩, hS.F ht⟩) hS.2.2 dX12_packs_103
          · skip
            have zh_20 : L15l4.toInt = p1.toInt := z_eq h_20
            refine lv_iload_n hx hb dX12_packs_88 rfl (lv_at hl 2 rfl) ?_
            refine lv_iconst (v := 1) hx hb dX12_packs_89 (by decide) ?_
            refine lv_iadd hx hb dX12_packs_90 ?_
            refine lv_topi (fun x_34 ex_34 => ?_)
            have zx_34 : x_34.toInt = p1.toInt + 1 := by rw [ex_34]; exact z_add rfl rfl (by omega) (by omega)
            refine lv_goto (tgt := 95) hx hb dX12_packs_91 (by decide) ?_
            refine lv_iload_n hx hb dX12_packs_95 rfl (lv_at hl 3 rfl) ?_
            obtain ⟨hPc, hDc, hFc⟩ := sub3 hP hD hS hA (ws' := [(mo, .inr (12, [.int v0, .ref m1, .ref m2, .ref m3, .ref m4, .ref m5, .int v6, .int v7, .int v8, .int v9, .int v10, .long v11, .int v12, .int v13, .int v14, .int v15, .ref m16, .ref m17, .ref m18, .ref m19, .ref m20, .ref m21, .ref m22, .ref m23, .int v24, .ref m25, .ref m26, .ref m27, .ref m28, .ref m29, .int v30, .ref m31, .ref m32, .ref m33, .int v34, .int v35, .int v36, .ref m37, .ref m38, .ref m39, .ref m40, .long v41])), (m17, .inl (k 0, 30, .inl f17)), (m20, .inl (k 0, 120, .inl f20)), (m37, .inl (k 0, 6, .inl g_17)), (m38, .inl (k 0, 6, .inl g_18))]) [0, 1, 2, 3, 4] (by decide +kernel) rfl
            refine va_calli (va_runV (C := RX12) (As := [.int 2, .int x_34, .int p2]) (rest := []) ⟨hx, hb, hml, hown, hts⟩ (c_X12_packs_4 l D k mo x_34 p2 v0 m1 m2 m3 m4 m5 v6 v7 v8 v9 v10 v11 v12 v13 v14 v15 m16 m17 m18 m19 m20 m21 m22 m23 v24 m25 m26 m27 m28 m29 v30 m31 m32 m33 v34 v35 v36 m37 m38 m39 m40 v41 f17 f20 g_17 g_18 H.size (show 0 ≤ x_34.toInt ∧ x_34.toInt ≤ 2 from by omega) (show 0 ≤ p2.toInt ∧ p2.toInt ≤ 6 from by omega) (show 0 ≤ v6.toInt ∧ v6.toInt ≤ 1000 from by omega) (show 0 ≤ v24.toInt ∧ v24.toInt ≤ 1023 from by omega) hp_f17_0 hp_f17_1 hp_f17_2 hp_f17_3 hp_f17_4 hp_f17_5 hp_f20_0 (show 2 ≤ (f17 3).toInt from by rw [show f17 3 = x_1 from ex_1.symm]; omega)) (cwV 3 hts (gV tw_8_146 tw_8_148 tw_p_90 tw_1_13 tw_8_149) rfl rfl rfl hdV_X12_packs ⟨Nat.le_of_ble_eq_true rfl, Nat.le_of_ble_eq_true rfl⟩) (cz_V hK hPc hDc hN (ci := 12) (q0 := 0) rfl rfl [.int 2, .int x_34, .int p2]) rfl rfl hl.1 rfl (lv_room (Nat.le_of_ble_eq_true rfl)) dX12_packs_96 ⟨Nat.le_of_ble_eq_true rfl, Nat.le_of_ble_eq_true rfl⟩) hS (fun q _ h => hFc q h) hFc (fun r_35 uZ tZ H1 locs ht hvm hw hB hz1 hk1 hS => ?_)
            obtain ⟨o_36, o_37⟩ := uZ
            obtain ⟨hP1, hK1, hD1⟩ := hB
            rw [ht] at hP1
            obtain ⟨hP, hD⟩ := va_join (wr := []) (w1 := [(mo, .inr (12, [.int v0, .ref m1, .ref m2, .ref m3, .ref m4, .ref m5, .int v6, .int v7, .int v8, .int v9, .int v10, .long v11, .int v12, .int v13, .int v14, .int v15, .ref m16, .ref m17, .ref m18, .ref m19, .ref m20, .ref m21, .ref m22, .ref m23, .int v24, .ref m25, .ref m26, .ref m27, .ref m28, .ref m29, .int v30, .ref m31, .ref m32, .ref m33, .int v34, .int v35, .int v36, .ref m37, .ref m38, .ref m39, .ref m40, .long v41])), (m17, .inl (k 0, 30, .inl f17)), (m20, .inl (k 0, 120, .inl f20)), (m37, .inl (k 0, 6, .inl o_36)), (m38, .inl (k 0, 6, .inl o_37))]) hP hD [0, 1, 2, 3, 4] [] rfl rfl (by decide +kernel) (by decide +kernel) hk1 hFc hP1 hD1
            clear hK1 hP1 hD1 hPc hDc hFc
            clear hk1 hz1 ht hvm
            have hP : va_P D vwCl [(mo, .inr (12, [.int v0, .ref m1, .ref m2, .ref m3, .ref m4, .ref m5, .int v6, .int v7, .int v8, .int v9, .int v10, .long v11, .int v12, .int v13, .int v14, .int v15, .ref m16, .ref m17, .ref m18, .ref m19, .ref m20, .ref m21, .ref m22, .ref m23, .int v24, .ref m25, .ref m26, .ref m27, .ref m28, .ref m29, .int v30, .ref m31, .ref m32, .ref m33, .int v34, .int v35, .int v36, .ref m37, .ref m38, .ref m39, .ref m40, .long v41])), (m17, .inl (k 0, 30, .inl f17)), (m20, .inl (k 0, 120, .inl f20)), (m37, .inl (k 0, 6, .inl o_36)), (m38, .inl (k 0, 6, .inl o_37))] H1 := hP
            have hD : va_D A [(mo, .inr (12, [.int v0, .ref m1, .ref m2, .ref m3, .ref m4, .ref m5, .int v6, .int v7, .int v8, .int v9, .int v10, .long v11, .int v12, .int v13, .int v14, .int v15, .ref m16, .ref m17, .ref m18, .ref m19, .ref m20, .ref m21, .ref m22, .ref m23, .int v24, .ref m25, .ref m26, .ref m27, .ref m28, .ref m29, .int v30, .ref m31, .ref m32, .ref m33, .int v34, .int v35, .int v36, .ref m37, .ref m38, .ref m39, .ref m40, .long v41])), (m17, .inl (k 0, 30, .inl f17)), (m20, .inl (k 0, 120, .inl f20)), (m37, .inl (k 0, 6, .inl o_36)), (m38, .inl (k 0, 6, .inl o_37))] := hD
            generalize H1 = H at hP hS ⊢
            have hw_38 : (0 ≤ r_35.toInt ∧ r_35.toInt ≤ 1) := hw
            have hw_39 := hw_38
            clear hw
            refine lv_if_eq (tgt := 104) hx hb dX12_packs_99 (by decide) (fun h_40 => ?_) (fun h_40 => ?_)
            · skip
              have zh_40 : r_35.toInt = 0 := z_eq h_40
              refine lv_aload_n hx hb dX12_packs_104 rfl (lv_at hl 0 rfl) ?_
              refine va_get (D := D) (ci := 12) (v := .ref m37) (C := RX12) (T := TX12) (N := 42) hx hb hts iT_X12 hown hK hP 0 rfl rfl 37 (by decide) (hts _ tw_6_90) (fun _ h9 => h9) rfl dX12_packs_105 ?_
              refine lv_iload hx hb dX12_packs_108 (lv_at hl 4 rfl) ?_
              refine lv_dup2_11 hx hb dX12_packs_110 rfl rfl ?_
              refine va_iald hx hb hK hP 3 0 rfl rfl (z_in (by omega) (by omega)) dX12_packs_111 ?_
              refine lv_topi (fun x_41 ex_41 => ?_)
              refine lv_aload_n hx hb dX12_packs_112 rfl (lv_at hl 0 rfl) ?_
              refine va_get (D := D) (ci := 12) (v := .ref m20) (C := RX12) (T := TX12) (N := 42) hx hb hts iT_X12 hown hK hP 0 rfl rfl 20 (by decide) (hts _ tw_6_73) (fun _ h9 => h9) rfl dX12_packs_113 ?_
              refine lv_iconst (v := 4) hx hb dX12_packs_116 (by decide) ?_
              refine lv_iload_n hx hb dX12_packs_117 rfl (lv_at hl 1 rfl) ?_
              refine lv_imul hx hb dX12_packs_118 ?_
              refine lv_topi (fun x_42 ex_42 => ?_)
              obtain rfl : x_42 = 4 := ex_42.trans (by decide)
              refine lv_iconst (v := 3) hx hb dX12_packs_119 (by decide) ?_
              refine lv_iadd hx hb dX12_packs_120 ?_
              refine lv_topi (fun x_43 ex_43 => ?_)
              obtain rfl : x_43 = 7 := ex_43.trans (by decide)
              refine va_iald hx hb hK hP 2 0 rfl rfl (z_in (by decide) (by decide)) dX12_packs_121 ?_
              refine lv_topi (fun x_44 ex_44 => ?_)
              obtain rfl : x_10 = x_44 := ex_10.trans ex_44.symm
              refine lv_iadd hx hb dX12_packs_122 ?_
              refine lv_topi (fun x_45 ex_45 => ?_)
              have zrx_41 := z_rng x_41
              refine va_iast hx hb hK hP hD hS 3 0 rfl rfl (z_in (by omega) (by omega)) dX12_packs_123 (fun H locs hP hD hS => ?_)
              obtain ⟨g_46, eg_46⟩ : ∃ z : Nat → Int32, upd o_36 L15l4.toNatClampNeg x_45 = z := ⟨_, rfl⟩
              have hP : va_P D vwCl [(mo, .inr (12, [.int v0, .ref m1, .ref m2, .ref m3, .ref m4, .ref m5, .int v6, .int v7, .int v8, .int v9, .int v10, .long v11, .int v12, .int v13, .int v14, .int v15, .ref m16, .ref m17, .ref m18, .ref m19, .ref m20, .ref m21, .ref m22, .ref m23, .int v24, .ref m25, .ref m26, .ref m27, .ref m28, .ref m29, .int v30, .ref m31, .ref m32, .ref m33, .int v34, .int v35, .int v36, .ref m37, .ref m38, .ref m39, .ref m40, .long v41])), (m17, .inl (k 0, 30, .inl f17)), (m20, .inl (k 0, 120, .inl f20)), (m37, .inl (k 0, 6, .inl (upd o_36 L15l4.toNatClampNeg x_45))), (m38, .inl (k 0, 6, .inl o_37))] H := hP
              have hD : va_D A [(mo, .inr (12, [.int v0, .ref m1, .ref m2, .ref m3, .ref m4, .ref m5, .int v6, .int v7, .int v8, .int v9, .int v10, .long v11, .int v12, .int v13, .int v14, .int v15, .ref m16, .ref m17, .ref m18, .ref m19, .ref m20, .ref m21, .ref m22, .ref m23, .int v24, .ref m25, .ref m26, .ref m27, .ref m28, .ref m29, .int v30, .ref m31, .ref m32, .ref m33, .int v34, .int v35, .int v36, .ref m37, .ref m38, .ref m39, .ref m40, .long v41])), (m17, .inl (k 0, 30, .inl f17)), (m20, .inl (k 0, 120, .inl f20)), (m37, .inl (k 0, 6, .inl (upd o_36 L15l4.toNatClampNeg x_45))), (m38, .inl (k 0, 6, .inl o_37))] := hD
              rw [eg_46] at hP hD
              obtain ⟨x_47, ex_47⟩ : ∃ y : Int32, y = L15l4 + 1 := ⟨_, rfl⟩
              have zx_47 : x_47.toInt = L15l4.toInt + 1 := by rw [ex_47]; exact z_add rfl rfl (by omega) (by omega)
              refine lv_iinc (v := x_47) (lv' := [(4, .int x_47), (0, .ref mo), (1, .int 1), (2, .int p1), (3, .int p2)]) hx hb dX12_packs_124 hl (k := 4) rfl (by rw [ex_47]; rfl) (by decide) rfl (fun ls hl => ?_)
              refine lv_goto (tgt := 15) hx hb dX12_packs_127 (by decide) ?_
              exact ih_3 _ _ _ _ (by omega) ⟨x_47, g_46, o_37, rfl, (show 0 ≤ x_47.toInt ∧ x_47.toInt ≤ 2 from by omega), hP.sub (ws' := [(mo, .inr (12, [.int v0, .ref m1, .ref m2, .ref m3, .ref m4, .ref m5, .int v6, .int v7, .int v8, .int v9, .int v10, .long v11, .int v12, .int v13, .int v14, .int v15, .ref m16, .ref m17, .ref m18, .ref m19, .ref m20, .ref m21, .ref m22, .ref m23, .int v24, .ref m25, .ref m26, .ref m27, .ref m28, .ref m29, .int v30, .ref m31, .ref m32, .ref m33, .int v34, .int v35, .int v36, .ref m37, .ref m38, .ref m39, .ref m40, .long v41])), (m17, .inl (k 0, 30, .inl f17)), (m20, .inl (k 0, 120, .inl f20)), (m37, .inl (k 0, 6, .inl g_46)), (m38, .inl (k 0, 6, .inl o_37))]) [0, 1, 2, 3, 4] rfl, hD.sub (ws' := [(mo, .inr (12, [.int v0, .ref m1, .ref m2, .ref m3, .ref m4, .ref m5, .int v6, .int v7, .int v8, .int v9, .int v10, .long v11, .int v12, .int v13, .int v14, .int v15, .ref m16, .ref m17, .ref m18, .ref m19, .ref m20, .ref m21, .ref m22, .ref m23, .int v24, .ref m25, .ref m26, .ref m27, .ref m28, .ref m29, .int v30, .ref m31, .ref m32, .ref m33, .int v34, .int v35, .int v36, .ref m37, .ref m38, .ref m39, .ref m40, .long v41])), (m17, .inl (k 0, 30, .inl f17)), (m20, .inl (k 0, 120, .inl f20)), (m37, .inl (k 0, 6, .inl g_46)), (m38, .inl (k 0, 6, .inl o_37))]) [0, 1, 2, 3, 4] (by decide +kernel) rfl, hS, lv_sub hl [1, 2, 3, 4, 0] rfl⟩
            · skip
              have zh_40 : ¬ r_35.toInt = 0 := z_ne h_40
              refine lv_iconst (v := 1) hx hb dX12_packs_102 (by decide) ?_
              obtain ⟨hP9, hD9⟩ := sub2 hP hD (ws' := [(mo, .inr (12, [.int v0, .ref m1, .ref m2, .ref m3, .ref m4, .ref m5, .int v6, .int v7, .int v8, .int v9, .int v10, .long v11, .int v12, .int v13, .int v14, .int v15, .ref m16, .ref m17, .ref m18, .ref m19, .ref m20, .ref m21, .ref m22, .ref m23, .int v24, .ref m25, .ref m26, .ref m27, .ref m28, .ref m29, .int v30, .ref m31, .ref m32, .ref m33, .int v34, .int v35, .int v36, .ref m37, .ref m38, .ref m39, .ref m40, .long v41])), (m17, .inl (k 0, 30, .inl f17)), (m20, .inl (k 0, 120, .inl f20)), (m37, .inl (k 0, 6, .inl o_36)), (m38, .inl (k 0, 6, .inl o_37))]) [0, 1, 2, 3, 4] (by decide +kernel) rfl
              exact W.zret (v := 1) hx hb hr (by decide) (fun tZ ht hW => ⟨⟨1, (o_36, o_37), rfl, (show 0 ≤ 1 ∧ 1 ≤ 1 from by omega), by rw [ht]; exact hP9, va_K.moved hW.alike hK, hD9⟩, hS.F ht⟩) hS.2.2 dX12_packs_103
        · skip
          have zh_11 : x_7.toInt < x_10.toInt := z_nle h_11
          refine lv_goto (tgt := 124) hx hb dX12_packs_47 (by decide) ?_
          obtain ⟨x_48, ex_48⟩ : ∃ y : Int32, y = L15l4 + 1 := ⟨_, rfl⟩
          have zx_48 : x_48.toInt = L15l4.toInt + 1 := by rw [ex_48]; exact z_add rfl rfl (by omega) (by omega)
          refine lv_iinc (v := x_48) (lv' := [(4, .int x_48), (0, .ref mo), (1, .int 1), (2, .int p1), (3, .int p2)]) hx hb dX12_packs_124 hl (k := 4) rfl (by rw [ex_48]; rfl) (by decide) rfl (fun ls hl => ?_)
          refine lv_goto (tgt := 15) hx hb dX12_packs_127 (by decide) ?_
          exact ih_3 _ _ _ _ (by omega) ⟨x_48, L15a3, L15a4, rfl, (show 0 ≤ x_48.toInt ∧ x_48.toInt ≤ 2 from by omega), hP.sub (ws' := [(mo, .inr (12, [.int v0, .ref m1, .ref m2, .ref m3, .ref m4, .ref m5, .int v6, .int v7, .int v8, .int v9, .int v10, .long v11, .int v12, .int v13, .int v14, .int v15, .ref m16, .ref m17, .ref m18, .ref m19, .ref m20, .ref m21, .ref m22, .ref m23, .int v24, .ref m25, .ref m26, .ref m27, .ref m28, .ref m29, .int v30, .ref m31, .ref m32, .ref m33, .int v34, .int v35, .int v36, .ref m37, .ref m38, .ref m39, .ref m40, .long v41])), (m17, .inl (k 0, 30, .inl f17)), (m20, .inl (k 0, 120, .inl f20)), (m37, .inl (k 0, 6, .inl L15a3)), (m38, .inl (k 0, 6, .inl L15a4))]) [0, 1, 2, 3, 4] rfl, hD.sub (ws' := [(mo, .inr (12, [.int v0, .ref m1, .ref m2, .ref m3, .ref m4, .ref m5, .int v6, .int v7, .int v8, .int v9, .int v10, .long v11, .int v12, .int v13, .int v14, .int v15, .ref m16, .ref m17, .ref m18, .ref m19, .ref m20, .ref m21, .ref m22, .ref m23, .int v24, .ref m25, .ref m26, .ref m27, .ref m28, .ref m29, .int v30, .ref m31, .ref m32, .ref m33, .int v34, .int v35, .int v36, .ref m37, .ref m38, .ref m39, .ref m40, .long v41])), (m17, .inl (k 0, 30, .inl f17)), (m20, .inl (k 0, 120, .inl f20)), (m37, .inl (k 0, 6, .inl L15a3)), (m38, .inl (k 0, 6, .inl L15a4))]) [0, 1, 2, 3, 4] (by decide +kernel) rfl, hS, lv_sub hl [1, 2, 3, 4, 0] rfl⟩
  · skip
    have zh_2 : 1 = x_1.toInt := z_eq h_2
    refine lv_iconst (v := 1) hx hb dX12_packs_10 (by decide) ?_
    obtain ⟨hP9, hD9⟩ := sub2 hP hD (ws' := [(mo, .inr (12, [.int v0, .ref m1, .ref m2, .ref m3, .ref m4, .ref m5, .int v6, .int v7, .int v8, .int v9, .int v10, .long v11, .int v12, .int v13, .int v14, .int v15, .ref m16, .ref m17, .ref m18, .ref m19, .ref m20, .ref m21, .ref m22, .ref m23, .int v24, .ref m25, .ref m26, .ref m27, .ref m28, .ref m29, .int v30, .ref m31, .ref m32, .ref m33, .int v34, .int v35, .int v36, .ref m37, .ref m38, .ref m39, .ref m40, .long v41])), (m17, .inl (k 0, 30, .inl f17)), (m20, .inl (k 0, 120, .inl f20)), (m37, .inl (k 0, 6, .inl f37)), (m38, .inl (k 0, 6, .inl f38))]) [0, 1, 2, 3, 4] (by decide +kernel) rfl
    exact W.zret (v := 1) hx hb hr (by decide) (fun tZ ht hW => ⟨⟨1, (f37, f38), rfl, (show 0 ≤ 1 ∧ 1 ≤ 1 from by omega), by rw [ht]; exact hP9, va_K.moved hW.alike hK, hD9⟩, hS.F ht⟩) hS.2.2 dX12_packs_11
set_option maxHeartbeats 4000000 in
set_option maxRecDepth 100000 in
theorem c_X12_packs_6 (l : Launch) (D : va_G) (k : Nat → ClassId) (mo : Nat) (p1 : Int32) (p2 : Int32) (v0 : Int32) (m1 : Nat) (m2 : Nat) (m3 : Nat) (m4 : Nat) (m5 : Nat) (v6 : Int32) (v7 : Int32) (v8 : Int32) (v9 : Int32) (v10 : Int32) (v11 : Int64) (v12 : Int32) (v13 : Int32) (v14 : Int32) (v15 : Int32) (m16 : Nat) (m17 : Nat) (m18 : Nat) (m19 : Nat) (m20 : Nat) (m21 : Nat) (m22 : Nat) (m23 : Nat) (v24 : Int32) (m25 : Nat) (m26 : Nat) (m27 : Nat) (m28 : Nat) (m29 : Nat) (v30 : Int32) (m31 : Nat) (m32 : Nat) (m33 : Nat) (v34 : Int32) (v35 : Int32) (v36 : Int32) (m37 : Nat) (m38 : Nat) (m39 : Nat) (m40 : Nat) (v41 : Int64) (f17 : Nat → Int32) (f20 : Nat → Int32) (f37 : Nat → Int32) (f38 : Nat → Int32) (sz : Nat) (h_p1 : 0 ≤ p1.toInt ∧ p1.toInt ≤ 0) (h_p2 : 0 ≤ p2.toInt ∧ p2.toInt ≤ 6) (h_v6 : 0 ≤ v6.toInt ∧ v6.toInt ≤ 1000) (h_v24 : 0 ≤ v24.toInt ∧ v24.toInt ≤ 1023) (hp_f17_0 : PR 30 6 0 0 8 f17) (hp_f17_1 : PR 30 6 1 0 10 f17) (hp_f17_2 : PR 30 6 2 0 4 f17) (hp_f17_3 : PR 30 6 3 0 6 f17) (hp_f17_4 : PR 30 6 4 0 2 f17) (hp_f17_5 : PR 30 6 5 0 40 f17) (hp_f20_0 : PR 120 4 0 0 7 f20) (hh : 0 ≤ (f17 3).toInt) : Met l yX12_packs (ww yX12_packs cX12_packs 5 (some .boolean)) ({ frames := 6, cells := 0, slots := 0, locals := 144 }) (Pre0 D k [(mo, .inr (12, [.int v0, .ref m1, .ref m2, .ref m3, .ref m4, .ref m5, .int v6, .int v7, .int v8, .int v9, .int v10, .long v11, .int v12, .int v13, .int v14, .int v15, .ref m16, .ref m17, .ref m18, .ref m19, .ref m20, .ref m21, .ref m22, .ref m23, .int v24, .ref m25, .ref m26, .ref m27, .ref m28, .ref m29, .int v30, .ref m31, .ref m32, .ref m33, .int v34, .int v35, .int v36, .ref m37, .ref m38, .ref m39, .ref m40, .long v41])), (m17, .inl (k 0, 30, .inl f17)), (m20, .inl (k 0, 120, .inl f20)), (m37, .inl (k 0, 6, .inl f37)), (m38, .inl (k 0, 6, .inl f38))] sz [.ref mo, .int 0, .int p1, .int p2]) (va_Qi (fun (r : Int32) (u : (Nat → Int32) × (Nat → Int32)) => match u with | (f37z, f38z) => (0 ≤ r.toInt ∧ r.toInt ≤ 1)) (fun (u : (Nat → Int32) × (Nat → Int32)) tZ => match u with | (f37z, f38z) => Bw D k (va_A [(mo, .inr (12, [.int v0, .ref m1, .ref m2, .ref m3, .ref m4, .ref m5, .int v6, .int v7, .int v8, .int v9, .int v10, .long v11, .int v12, .int v13, .int v14, .int v15, .ref m16, .ref m17, .ref m18, .ref m19, .ref m20, .ref m21, .ref m22, .ref m23, .int v24, .ref m25, .ref m26, .ref m27, .ref m28, .ref m29, .int v30, .ref m31, .ref m32, .ref m33, .int v34, .int v35, .int v36, .ref m37, .ref m38, .ref m39, .ref m40, .long v41])), (m17, .inl (k 0, 30, .inl f17)), (m20, .inl (k 0, 120, .inl f20)), (m37, .inl (k 0, 6, .inl f37)), (m38, .inl (k 0, 6, .inl f38))] sz) [(mo, .inr (12, [.int v0, .ref m1, .ref m2, .ref m3, .ref m4, .ref m5, .int v6, .int v7, .int v8, .int v9, .int v10, .long v11, .int v12, .int v13, .int v14, .int v15, .ref m16, .ref m17, .ref m18, .ref m19, .ref m20, .ref m21, .ref m22, .ref m23, .int v24, .ref m25, .ref m26, .ref m27, .ref m28, .ref m29, .int v30, .ref m31, .ref m32, .ref m33, .int v34, .int v35, .int v36, .ref m37, .ref m38, .ref m39, .ref m40, .long v41])), (m17, .inl (k 0, 30, .inl f17)), (m20, .inl (k 0, 120, .inl f20)), (m37, .inl (k 0, 6, .inl f37z)), (m38, .inl (k 0, 6, .inl f38z))] tZ) (va_A [(mo, .inr (12, [.int v0, .ref m1, .ref m2, .ref m3, .ref m4, .ref m5, .int v6, .int v7, .int v8, .int v9, .int v10, .long v11, .int v12, .int v13, .int v14, .int v15, .ref m16, .ref m17, .ref m18, .ref m19, .ref m20, .ref m21, .ref m22, .ref m23, .int v24, .ref m25, .ref m26, .ref m27, .ref m28, .ref m29, .int v30, .ref m31, .ref m32, .ref m33, .int v34, .int v35, .int v36, .ref m37, .ref m38, .ref m39, .ref m40, .long v41])), (m17, .inl (k 0, 30, .inl f17)), (m20, .inl (k 0, 120, .inl f20)), (m37, .inl (k 0, 6, .inl f37)), (m38, .inl (k 0, 6, .inl f38))] sz)) 0 0 (va_A [(mo, .inr (12, [.int v0, .ref m1, .ref m2, .ref m3, .ref m4, .ref m5, .int v6, .int v7, .int v8, .int v9, .int v10, .long v11, .int v12, .int v13, .int v14, .int v15, .ref m16, .ref m17, .ref m18, .ref m19, .ref m20, .ref m21, .ref m22, .ref m23, .int v24, .ref m25, .ref m26, .ref m27, .ref m28, .ref m29, .int v30, .ref m31, .ref m32, .ref m33, .int v34, .int v35, .int v36, .ref m37, .ref m38, .ref m39, .ref m40, .long v41])), (m17, .inl (k 0, 30, .inl f17)), (m20, .inl (k 0, 120, .inl f20)), (m37, .inl (k 0, 6, .inl f37)), (m38, .inl (k 0, 6, .inl f38))] sz) := by
  refine Met.ofW (cc := cX12_packs) (maxL := 5) (ret := (some .boolean)) (by decide +kernel) rfl ?_
  intro p e s m args below meth c s₁ B hml hv
  obtain ⟨rfl, hsz, hP, hK, hD0, hN⟩ := hv
  have hx := B.exec
  have hb := B.bytes
  have hr := B.returns
  have hts : ∀ w ∈ TT, w.before _ s = true := fun w h => atoms_spec (ws := ww yX12_packs cX12_packs 5 (some .boolean)) B.pre w (List.mem_cons_of_mem _ h)
  have hown : s.vm.findClass RX12 = some m.cls := findClass_of_methodNamed B.named
  have hlocks := B.notSynchronized
  subst hsz
  have hD := hD0.self (sz := s.heap.size)
  generalize hAe : va_A [(mo, .inr (12, [.int v0, .ref m1, .ref m2, .ref m3, .ref m4, .ref m5, .int v6, .int v7, .int v8, .int v9, .int v10, .long v11, .int v12, .int v13, .int v14, .int v15, .ref m16, .ref m17, .ref m18, .ref m19, .ref m20, .ref m21, .ref m22, .ref m23, .int v24, .ref m25, .ref m26, .ref m27, .ref m28, .ref m29, .int v30, .ref m31, .ref m32, .ref m33, .int v34, .int v35, .int v36, .ref m37, .ref m38, .ref m39, .ref m40, .long v41])), (m17, .inl (k 0, 30, .inl f17)), (m20, .inl (k 0, 120, .inl f20)), (m37, .inl (k 0, 6, .inl f37)), (m38, .inl (k 0, 6, .inl f38))] s.heap.size = A at hD ⊢
  have hA : ∀ q : Nat, s.heap.size ≤ q → A q := fun q h => by rw [← hAe]; exact Or.inr h
  have hS : va_S A s.heap s.heap [] := va_S.rf
  have hl := lv_entry ([.ref mo, .int 0, .int p1, .int p2]) (n := 5) (Nat.le_of_ble_eq_true rfl)
  rw [lg_entry_eq]
  generalize (lg_sl ([.ref mo, .int 0, .int p1, .int p2]) ++ List.replicate (5 - (lg_sl ([.ref mo, .int 0, .int p1, .int p2])).length) Slot.unset).toArray = ls at hl ⊢
  have hl : lv_has ls 5 [(0, .ref mo), (1, .int 0), (2, .int p1), (3, .int p2)] := hl
  refine lv_iload_n hx hb dX12_packs_0 rfl (lv_at hl 1 rfl) ?_
  refine lv_aload_n hx hb dX12_packs_1 rfl (lv_at hl 0 rfl) ?_
  refine va_get (D := D) (ci := 12) (v := .ref m17) (C := RX12) (T := TX12) (N := 42) hx hb hts iT_X12 hown hK hP 0 rfl rfl 17 (by decide) (hts _ tw_6_70) (fun _ h9 => h9) rfl dX12_packs_2 ?_
  refine lv_iconst (v := 3) hx hb dX12_packs_5 (by decide) ?_
  refine va_iald hx hb hK hP 1 0 rfl rfl (z_in (by decide) (by decide)) dX12_packs_6 ?_
  refine lv_topi (fun x_1 ex_1 => ?_)
  have zx_1r3 : 0 ≤ x_1.toInt ∧ x_1.toInt ≤ 6 := by rw [ex_1]; exact PR.ld hp_f17_3 (by decide) (by decide) (by decide)
  have zpx_1 : 0 ≤ x_1.toInt := by rw [ex_1]; exact hh
  refine lv_icmp_ne (tgt := 12) hx hb dX12_packs_7 (by decide) (fun h_2 => ?_) (fun h_2 => ?_)
  · skip
    have zh_2 : ¬ 0 = x_1.toInt := z_ne h_2
    refine lv_iconst (v := 0) hx hb dX12_packs_12 (by decide) ?_
    refine lv_istore (lv' := [(4, .int 0), (0, .ref mo), (1, .int 0), (2, .int p1), (3, .int p2)]) hx hb dX12_packs_13 hl (by decide) rfl (fun ls hl => ?_)
    refine loop_r (Wg := fun H locs ls => W p l e _ s m _ below meth c H locs _ _ _ (F0 m 15 ls [])) (fun n9 H locs ls => ∃ (L15l4 : Int32) (L15a3 : Nat → Int32) (L15a4 : Nat → Int32), n9 = (1 - L15l4.toInt).toNat ∧ (0 ≤ L15l4.toInt ∧ L15l4.toInt ≤ 1) ∧ va_P D vwCl [(mo, .inr (12, [.int v0, .ref m1, .ref m2, .ref m3, .ref m4, .ref m5, .int v6, .int v7, .int v8, .int v9, .int v10, .long v11, .int v12, .int v13, .int v14, .int v15, .ref m16, .ref m17, .ref m18, .ref m19, .ref m20, .ref m21, .ref m22, .ref m23, .int v24, .ref m25, .ref m26, .ref m27, .ref m28, .ref m29, .int v30, .ref m31, .ref m32, .ref m33, .int v34, .int v35, .int v36, .ref m37, .ref m38, .ref m39, .ref m40, .long v41])), (m17, .inl (k 0, 30, .inl f17)), (m20, .inl (k 0, 120, .inl f20)), (m37, .inl (k 0, 6, .inl L15a3)), (m38, .inl (k 0, 6, .inl L15a4))] H ∧ va_D A [(mo, .inr (12, [.int v0, .ref m1, .ref m2, .ref m3, .ref m4, .ref m5, .int v6, .int v7, .int v8, .int v9, .int v10, .long v11, .int v12, .int v13, .int v14, .int v15, .ref m16, .ref m17, .ref m18, .ref m19, .ref m20, .ref m21, .ref m22, .ref m23, .int v24, .ref m25, .ref m26, .ref m27, .ref m28, .ref m29, .int v30, .ref m31, .ref m32, .ref m33, .int v34, .int v35, .int v36, .ref m37, .ref m38, .ref m39, .ref m40, .long v41])), (m17, .inl (k 0, 30, .inl f17)), (m20, .inl (k 0, 120, .inl f20)), (m37, .inl (k 0, 6, .inl L15a3)), (m38, .inl (k 0, 6, .inl L15a4))] ∧ va_S A s.heap H locs ∧ lv_has ls 5 [(0, .ref mo), (1, .int 0), (2, .int p1), (3, .int p2), (4, .int L15l4)]) (fun n9 H locs ls hI ih_3 => ?_) _ _ _ _ ⟨0, f37, f38, rfl, (show 0 ≤ 0 ∧ 0 ≤ 1 from by omega), hP.sub (ws' := [(mo, .inr (12, [.int v0, .ref m1, .ref m2, .ref m3, .ref m4, .ref m5, .int v6, .int v7, .int v8, .int v9, .int v10, .long v11, .int v12, .int v13, .int v14, .int v15, .ref m16, .ref m17, .ref m18, .ref m19, .ref m20, .ref m21, .ref m22, .ref m23, .int v24, .ref m25, .ref m26, .ref m27, .ref m28, .ref m29, .int v30, .ref m31, .ref m32, .ref m33, .int v34, .int v35, .int v36, .ref m37, .ref m38, .ref m39, .ref m40, .long v41])), (m17, .inl (k 0, 30, .inl f17)), (m20, .inl (k 0, 120, .inl f20)), (m37, .inl (k 0, 6, .inl f37)), (m38, .inl (k 0, 6, .inl f38))]) [0, 1, 2, 3, 4] rfl, hD.sub (ws' := [(mo, .inr (12, [.int v0, .ref m1, .ref m2, .ref m3, .ref m4, .ref m5, .int v6, .int v7, .int v8, .int v9, .int v10, .long v11, .int v12, .int v13, .int v14, .int v15, .ref m16, .ref m17, .ref m18, .ref m19, .ref m20, .ref m21, .ref m22, .ref m23, .int v24, .ref m25, .ref m26, .ref m27, .ref m28, .ref m29, .int v30, .ref m31, .ref m32, .ref m33, .int v34, .int v35, .int v36, .ref m37, .ref m38, .ref m39, .ref m40, .long v41])), (m17, .inl (k 0, 30, .inl f17)), (m20, .inl (k 0, 120, .inl f20)), (m37, .inl (k 0, 6, .inl f37)), (m38, .inl (k 0, 6, .inl f38))]) [0, 1, 2, 3, 4] (by decide +kernel) rfl, hS, lv_sub hl [1, 2, 3, 4, 0] rfl⟩
    clear hP hD hS hl
    obtain ⟨L15l4, L15a3, L15a4, en_4, zL15l4, hP, hD, hS, hl⟩ := hI
    refine lv_iload hx hb dX12_packs_15 (lv_at hl 4 rfl) ?_
    refine lv_iload_n hx hb dX12_packs_17 rfl (lv_at hl 2 rfl) ?_
    refine lv_icmp_gt (tgt := 130) hx hb dX12_packs_18 (by decide) (fun h_5 => ?_) (fun h_5 => ?_)
    · skip
      have zh_5 : p1.toInt < L15l4.toInt := z_lt h_5
      refine lv_iconst (v := 0) hx hb dX12_packs_130 (by decide) ?_
      obtain ⟨hP9, hD9⟩ := sub2 hP hD (ws' := [(mo, .inr (12, [.int v0, .ref m1, .ref m2, .ref m3, .ref m4, .ref m5, .int v6, .int v7, .int v8, .int v9, .int v10, .long v11, .int v12, .int v13, .int v14, .int v15, .ref m16, .ref m17, .ref m18, .ref m19, .ref m20, .ref m21, .ref m22, .ref m23, .int v24, .ref m25, .ref m26, .ref m27, .ref m28, .ref m29, .int v30, .ref m31, .ref m32, .ref m33, .int v34, .int v35, .int v36, .ref m37, .ref m38, .ref m39, .ref m40, .long v41])), (m17, .inl (k 0, 30, .inl f17)), (m20, .inl (k 0, 120, .inl f20)), (m37, .inl (k 0, 6, .inl L15a3)), (m38, .inl (k 0, 6, .inl L15a4))]) [0, 1, 2, 3, 4] (by decide +kernel) rfl
      exact W.zret (v := 0) hx hb hr (by decide) (fun tZ ht hW => ⟨⟨0, (L15a3, L15a4), rfl, (show 0 ≤ 0 ∧ 0 ≤ 1 from by omega), by rw [ht]; exact hP9, va_K.moved hW.alike hK, hD9⟩, hS.F ht⟩) hS.2.2 dX12_packs_131
    · skip
      have zh_5 : L15l4.toInt ≤ p1.toInt := z_nlt h_5
      refine lv_iload hx hb dX12_packs_21 (lv_at hl 4 rfl) ?_
      refine lv_iload_n hx hb dX12_packs_23 rfl (lv_at hl 3 rfl) ?_
      refine lv_icmp_ge (tgt := 130) hx hb dX12_packs_24 (by decide) (fun h_6 => ?_) (fun h_6 => ?_)
      · skip
        have zh_6 : p2.toInt ≤ L15l4.toInt := z_le h_6
        refine lv_iconst (v := 0) hx hb dX12_packs_130 (by decide) ?_
        obtain ⟨hP9, hD9⟩ := sub2 hP hD (ws' := [(mo, .inr (12, [.int v0, .ref m1, .ref m2, .ref m3, .ref m4, .ref m5, .int v6, .int v7, .int v8, .int v9, .int v10, .long v11, .int v12, .int v13, .int v14, .int v15, .ref m16, .ref m17, .ref m18, .ref m19, .ref m20, .ref m21, .ref m22, .ref m23, .int v24, .ref m25, .ref m26, .ref m27, .ref m28, .ref m29, .int v30, .ref m31, .ref m32, .ref m33, .int v34, .int v35, .int v36, .ref m37, .ref m38, .ref m39, .ref m40, .long v41])), (m17, .inl (k 0, 30, .inl f17)), (m20, .inl (k 0, 120, .inl f20)), (m37, .inl (k 0, 6, .inl L15a3)), (m38, .inl (k 0, 6, .inl L15a4))]) [0, 1, 2, 3, 4] (by decide +kernel) rfl
        exact W.zret (v := 0) hx hb hr (by decide) (fun tZ ht hW => ⟨⟨0, (L15a3, L15a4), rfl, (show 0 ≤ 0 ∧ 0 ≤ 1 from by omega), by rw [ht]; exact hP9, va_K.moved hW.alike hK, hD9⟩, hS.F ht⟩) hS.2.2 dX12_packs_131
      · skip
        have zh_6 : L15l4.toInt < p2.toInt := z_nle h_6
        refine lv_aload_n hx hb dX12_packs_27 rfl (lv_at hl 0 rfl) ?_
        refine va_get (D := D) (ci := 12) (v := .ref m37) (C := RX12) (T := TX12) (N := 42) hx hb hts iT_X12 hown hK hP 0 rfl rfl 37 (by decide) (hts _ tw_6_90) (fun _ h9 => h9) rfl dX12_packs_28 ?_
        refine lv_iload hx hb dX12_packs_31 (lv_at hl 4 rfl) ?_
        refine va_iald hx hb hK hP 3 0 rfl rfl (z_in (by omega) (by omega)) dX12_packs_33 ?_
        refine lv_topi (fun x_7 ex_7 => ?_)
        refine lv_aload_n hx hb dX12_packs_34 rfl (lv_at hl 0 rfl) ?_
        refine va_get (D := D) (ci := 12) (v := .ref m20) (C := RX12) (T := TX12) (N := 42) hx hb hts iT_X12 hown hK hP 0 rfl rfl 20 (by decide) (hts _ tw_6_73) (fun _ h9 => h9) rfl dX12_packs_35 ?_
        refine lv_iconst (v := 4) hx hb dX12_packs_38 (by decide) ?_
        refine lv_iload_n hx hb dX12_packs_39 rfl (lv_at hl 1 rfl) ?_
        refine lv_imul hx hb dX12_packs_40 ?_
        refine lv_topi (fun x_8 ex_8 => ?_)
        obtain rfl : x_8 = 0 := ex_8.trans (by decide)
        refine lv_iconst (v := 3) hx hb dX12_packs_41 (by decide) ?_
        refine lv_iadd hx hb dX12_packs_42 ?_
        refine lv_topi (fun x_9 ex_9 => ?_)
        obtain rfl : x_9 = 3 := ex_9.trans (by decide)
        refine va_iald hx hb hK hP 2 0 rfl rfl (z_in (by decide) (by decide)) dX12_packs_43 ?_
        refine lv_topi (fun x_10 ex_10 => ?_)
        refine lv_icmp_ge (tgt := 50) hx hb dX12_packs_44 (by decide) (fun h_11 => ?_) (fun h_11 => ?_)
        · skip
          have zh_11 : x_10.toInt ≤ x_7.toInt := z_le h_11
          refine lv_aload_n hx hb dX12_packs_50 rfl (lv_at hl 0 rfl) ?_
          refine va_get (D := D) (ci := 12) (v := .ref m37) (C := RX12) (T := TX12) (N := 42) hx hb hts iT_X12 hown hK hP 0 rfl rfl 37 (by decide) (hts _ tw_6_90) (fun _ h9 => h9) rfl dX12_packs_51 ?_
          refine lv_iload hx hb dX12_packs_54 (lv_at hl 4 rfl) ?_
          refine lv_dup2_11 hx hb dX12_packs_56 rfl rfl ?_
          refine va_iald hx hb hK hP 3 0 rfl rfl (z_in (by omega) (by omega)) dX12_packs_57 ?_
          refine lv_topi (fun x_12 ex_12 => ?_)
          obtain rfl : x_7 = x_12 := ex_7.trans ex_12.symm
          refine lv_aload_n hx hb dX12_packs_58 rfl (lv_at hl 0 rfl) ?_
          refine va_get (D := D) (ci := 12) (v := .ref m20) (C := RX12) (T := TX12) (N := 42) hx hb hts iT_X12 hown hK hP 0 rfl rfl 20 (by decide) (hts _ tw_6_73) (fun _ h9 => h9) rfl dX12_packs_59 ?_
          refine lv_iconst (v := 4) hx hb dX12_packs_62 (by decide) ?_
          refine lv_iload_n hx hb dX12_packs_63 rfl (lv_at hl 1 rfl) ?_
          refine lv_imul hx hb dX12_packs_64 ?_
          refine lv_topi (fun x_13 ex_13 => ?_)
          obtain rfl : x_13 = 0 := ex_13.trans (by decide)
          refine lv_iconst (v := 3) hx hb dX12_packs_65 (by decide) ?_
          refine lv_iadd hx hb dX12_packs_66 ?_
          refine lv_topi (fun x_14 ex_14 => ?_)
          obtain rfl : x_14 = 3 := ex_14.trans (by decide)
          refine va_iald hx hb hK hP 2 0 rfl rfl (z_in (by decide) (by decide)) dX12_packs_67 ?_
          refine lv_topi (fun x_15 ex_15 => ?_)
          obtain rfl : x_10 = x_15 := ex_10.trans ex_15.symm
          refine lv_isub hx hb dX12_packs_68 ?_
          refine lv_topi (fun x_16 ex_16 => ?_)
          have zrx_7 := z_rng x_7
          have zrx_10 := z_rng x_10
          refine va_iast hx hb hK hP hD hS 3 0 rfl rfl (z_in (by omega) (by omega)) dX12_packs_69 (fun H locs hP hD hS => ?_)
          obtain ⟨g_17, eg_17⟩ : ∃ z : Nat → Int32, upd L15a3 L15l4.toNatClampNeg x_16 = z := ⟨_, rfl⟩
          have hP : va_P D vwCl [(mo, .inr (12, [.int v0, .ref m1, .ref m2, .ref m3, .ref m4, .ref m5, .int v6, .int v7, .int v8, .int v9, .int v10, .long v11, .int v12, .int v13, .int v14, .int v15, .ref m16, .ref m17, .ref m18, .ref m19, .ref m20, .ref m21, .ref m22, .ref m23, .int v24, .ref m25, .ref m26, .ref m27, .ref m28, .ref m29, .int v30, .ref m31, .ref m32, .ref m33, .int v34, .int v35, .int v36, .ref m37, .ref m38, .ref m39, .ref m40, .long v41])), (m17, .inl (k 0, 30, .inl f17)), (m20, .inl (k 0, 120, .inl f20)), (m37, .inl (k 0, 6, .inl (upd L15a3 L15l4.toNatClampNeg x_16))), (m38, .inl (k 0, 6, .inl L15a4))] H := hP
          have hD : va_D A [(mo, .inr (12, [.int v0, .ref m1, .ref m2, .ref m3, .ref m4, .ref m5, .int v6, .int v7, .int v8, .int v9, .int v10, .long v11, .int v12, .int v13, .int v14, .int v15, .ref m16, .ref m17, .ref m18, .ref m19, .ref m20, .ref m21, .ref m22, .ref m23, .int v24, .ref m25, .ref m26, .ref m27, .ref m28, .ref m29, .int v30, .ref m31, .ref m32, .ref m33, .int v34, .int v35, .int v36, .ref m37, .ref m38, .ref m39, .ref m40, .long v41])), (m17, .inl (k 0, 30, .inl f17)), (m20, .inl (k 0, 120, .inl f20)), (m37, .inl (k 0, 6, .inl (upd L15a3 L15l4.toNatClampNeg x_16))), (m38, .inl (k 0, 6, .inl L15a4))] := hD
          rw [eg_17] at hP hD
          refine lv_aload_n hx hb dX12_packs_70 rfl (lv_at hl 0 rfl) ?_
          refine va_get (D := D) (ci := 12) (v := .ref m38) (C := RX12) (T := TX12) (N := 42) hx hb hts iT_X12 hown hK hP 0 rfl rfl 38 (by decide) (hts _ tw_6_91) (fun _ h9 => h9) rfl dX12_packs_71 ?_
          refine lv_iload_n hx hb dX12_packs_74 rfl (lv_at hl 1 rfl) ?_
          refine lv_iload hx hb dX12_packs_75 (lv_at hl 4 rfl) ?_
          refine va_iast hx hb hK hP hD hS 4 0 rfl rfl (z_in (by decide) (by decide)) dX12_packs_77 (fun H locs hP hD hS => ?_)
          obtain ⟨g_18, eg_18⟩ : ∃ z : Nat → Int32, upd L15a4 0 L15l4 = z := ⟨_, rfl⟩
          have hP : va_P D vwCl [(mo, .inr (12, [.int v0, .ref m1, .ref m2, .ref m3, .ref m4, .ref m5, .int v6, .int v7, .int v8, .int v9, .int v10, .long v11, .int v12, .int v13, .int v14, .int v15, .ref m16, .ref m17, .ref m18, .ref m19, .ref m20, .ref m21, .ref m22, .ref m23, .int v24, .ref m25, .ref m26, .ref m27, .ref m28, .ref m29, .int v30, .ref m31, .ref m32, .ref m33, .int v34, .int v35, .int v36, .ref m37, .ref m38, .ref m39, .ref m40, .long v41])), (m17, .inl (k 0, 30, .inl f17)), (m20, .inl (k 0, 120, .inl f20)), (m37, .inl (k 0, 6, .inl g_17)), (m38, .inl (k 0, 6, .inl (upd L15a4 0 L15l4)))] H := hP
          have hD : va_D A [(mo, .inr (12, [.int v0, .ref m1, .ref m2, .ref m3, .ref m4, .ref m5, .int v6, .int v7, .int v8, .int v9, .int v10, .long v11, .int v12, .int v13, .int v14, .int v15, .ref m16, .ref m17, .ref m18, .ref m19, .ref m20, .ref m21, .ref m22, .ref m23, .int v24, .ref m25, .ref m26, .ref m27, .ref m28, .ref m29, .int v30, .ref m31, .ref m32, .ref m33, .int v34, .int v35, .int v36, .ref m37, .ref m38, .ref m39, .ref m40, .long v41])), (m17, .inl (k 0, 30, .inl f17)), (m20, .inl (k 0, 120, .inl f20)), (m37, .inl (k 0, 6, .inl g_17)), (m38, .inl (k 0, 6, .inl (upd L15a4 0 L15l4)))] := hD
          rw [eg_18] at hP hD
          refine lv_aload_n hx hb dX12_packs_78 rfl (lv_at hl 0 rfl) ?_
          refine lv_iload_n hx hb dX12_packs_79 rfl (lv_at hl 1 rfl) ?_
          refine lv_iconst (v := 1) hx hb dX12_packs_80 (by decide) ?_
          refine lv_iadd hx hb dX12_packs_81 ?_
          refine lv_topi (fun x_19 ex_19 => ?_)
          obtain rfl : x_19 = 1 := ex_19.trans (by decide)
          refine lv_iload hx hb dX12_packs_82 (lv_at hl 4 rfl) ?_
          refine lv_iload_n hx hb dX12_packs_84 rfl (lv_at hl 2 rfl) ?_
          refine lv_icmp_ne (tgt := 94) hx hb dX12_packs_85 (by decide) (fun h_20 => ?_) (fun h_20 => ?_)
          · skip
            have zh_20 : ¬ L15l4.toInt = p1.toInt := z_ne h_20
            exact False.elim (by omega)
          · skip
            have zh_20 : L15l4.toInt = p1.toInt := z_eq h_20
            refine lv_iload_n hx hb dX12_packs_88 rfl (lv_at hl 2 rfl) ?_
            refine lv_iconst (v := 1) hx hb dX12_packs_89 (by decide) ?_
            refine lv_iadd hx hb dX12_packs_90 ?_
            refine lv_topi (fun x_21 ex_21 => ?_)
            have zx_21 : x_21.toInt = p1.toInt + 1 := by rw [ex_21]; exact z_add rfl rfl (by omega) (by omega)
            refine lv_goto (tgt := 95) hx hb dX12_packs_91 (by decide) ?_
            refine lv_iload_n hx hb dX12_packs_95 rfl (lv_at hl 3 rfl) ?_
            obtain ⟨hPc, hDc, hFc⟩ := sub3 hP hD hS hA (ws' := [(mo, .inr (12, [.int v0, .ref m1, .ref m2, .ref m3, .ref m4, .ref m5, .int v6, .int v7, .int v8, .int v9, .int v10, .long v11, .int v12, .int v13, .int v14, .int v15, .ref m16, .ref m17, .ref m18, .ref m19, .ref m20, .ref m21, .ref m22, .ref m23, .int v24, .ref m25, .ref m26, .ref m27, .ref m28, .ref m29, .int v30, .ref m31, .ref m32, .ref m33, .int v34, .int v35, .int v36, .ref m37, .ref m38, .ref m39, .ref m40, .long v41])), (m17, .inl (k 0, 30, .inl f17)), (m20, .inl (k 0, 120, .inl f20)), (m37, .inl (k 0, 6, .inl g_17)), (m38, .inl (k 0, 6, .inl g_18))]) [0, 1, 2, 3, 4] (by decide +kernel) rfl
            refine va_calli (va_runV (C := RX12) (As := [.int 1, .int x_21, .int p2]) (rest := []) ⟨hx, hb, hml, hown, hts⟩ (c_X12_packs_5 l D k mo x_21 p2 v0 m1 m2 m3 m4 m5 v6 v7 v8 v9 v10 v11 v12 v13 v14 v15 m16 m17 m18 m19 m20 m21 m22 m23 v24 m25 m26 m27 m28 m29 v30 m31 m32 m33 v34 v35 v36 m37 m38 m39 m40 v41 f17 f20 g_17 g_18 H.size (show 0 ≤ x_21.toInt ∧ x_21.toInt ≤ 1 from by omega) (show 0 ≤ p2.toInt ∧ p2.toInt ≤ 6 from by omega) (show 0 ≤ v6.toInt ∧ v6.toInt ≤ 1000 from by omega) (show 0 ≤ v24.toInt ∧ v24.toInt ≤ 1023 from by omega) hp_f17_0 hp_f17_1 hp_f17_2 hp_f17_3 hp_f17_4 hp_f17_5 hp_f20_0 (show 1 ≤ (f17 3).toInt from by rw [show f17 3 = x_1 from ex_1.symm]; omega)) (cwV 3 hts (gV tw_8_146 tw_8_148 tw_p_90 tw_1_13 tw_8_149) rfl rfl rfl hdV_X12_packs ⟨Nat.le_of_ble_eq_true rfl, Nat.le_of_ble_eq_true rfl⟩) (cz_V hK hPc hDc hN (ci := 12) (q0 := 0) rfl rfl [.int 1, .int x_21, .int p2]) rfl rfl hl.1 rfl (lv_room (Nat.le_of_ble_eq_true rfl)) dX12_packs_96 ⟨Nat.le_of_ble_eq_true rfl, Nat.le_of_ble_eq_true rfl⟩) hS (fun q _ h => hFc q h) hFc (fun r_22 uZ tZ H1 locs ht hvm hw hB hz1 hk1 hS => ?_)
            obtain ⟨o_23, o_24⟩ := uZ
            obtain ⟨hP1, hK1, hD1⟩ := hB
            rw [ht] at hP1
            obtain ⟨hP, hD⟩ := va_join (wr := []) (w1 := [(mo, .inr (12, [.int v0, .ref m1, .ref m2, .ref m3, .ref m4, .ref m5, .int v6, .int v7, .int v8, .int v9, .int v10, .long v11, .int v12, .int v13, .int v14, .int v15, .ref m16, .ref m17, .ref m18, .ref m19, .ref m20, .ref m21, .ref m22, .ref m23, .int v24, .ref m25, .ref m26, .ref m27, .ref m28, .ref m29, .int v30, .ref m31, .ref m32, .ref m33, .int v34, .int v35, .int v36, .ref m37, .ref m38, .ref m39, .ref m40, .long v41])), (m17, .inl (k 0, 30, .inl f17)), (m20, .inl (k 0, 120, .inl f20)), (m37, .inl (k 0, 6, .inl o_23)), (m38, .inl (k 0, 6, .inl o_24))]) hP hD [0, 1, 2, 3, 4] [] rfl rfl (by decide +kernel) (by decide +kernel) hk1 hFc hP1 hD1
            clear hK1 hP1 hD1 hPc hDc hFc
            clear hk1 hz1 ht hvm
            have hP : va_P D vwCl [(mo, .inr (12, [.int v0, .ref m1, .ref m2, .ref m3, .ref m4, .ref m5, .int v6, .int v7, .int v8, .int v9, .int v10, .long v11, .int v12, .int v13, .int v14, .int v15, .ref m16, .ref m17, .ref m18, .ref m19, .ref m20, .ref m21, .ref m22, .ref m23, .int v24, .ref m25, .ref m26, .ref m27, .ref m28, .ref m29, .int v30, .ref m31, .ref m32, .ref m33, .int v34, .int v35, .int v36, .ref m37, .ref m38, .ref m39, .ref m40, .long v41])), (m17, .inl (k 0, 30, .inl f17)), (m20, .inl (k 0, 120, .inl f20)), (m37, .inl (k 0, 6, .inl o_23)), (m38, .inl (k 0, 6, .inl o_24))] H1 := hP
            have hD : va_D A [(mo, .inr (12, [.int v0, .ref m1, .ref m2, .ref m3, .ref m4, .ref m5, .int v6, .int v7, .int v8, .int v9, .int v10, .long v11, .int v12, .int v13, .int v14, .int v15, .ref m16, .ref m17, .ref m18, .ref m19, .ref m20, .ref m21, .ref m22, .ref m23, .int v24, .ref m25, .ref m26, .ref m27, .ref m28, .ref m29, .int v30, .ref m31, .ref m32, .ref m33, .int v34, .int v35, .int v36, .ref m37, .ref m38, .ref m39, .ref m40, .long v41])), (m17, .inl (k 0, 30, .inl f17)), (m20, .inl (k 0, 120, .inl f20)), (m37, .inl (k 0, 6, .inl o_23)), (m38, .inl (k 0, 6, .inl o_24))] := hD
            generalize H1 = H at hP hS ⊢
            have hw_25 : (0 ≤ r_22.toInt ∧ r_22.toInt ≤ 1) := hw
            have hw_26 := hw_25
            clear hw
            refine lv_if_eq (tgt := 104) hx hb dX12_packs_99 (by decide) (fun h_27 => ?_) (fun h_27 => ?_)
            · skip
              have zh_27 : r_22.toInt = 0 := z_eq h_27
              refine lv_aload_n hx hb dX12_packs_104 rfl (lv_at hl 0 rfl) ?_
              refine va_get (D := D) (ci := 12) (v := .ref m37) (C := RX12) (T := TX12) (N := 42) hx hb hts iT_X12 hown hK hP 0 rfl rfl 37 (by decide) (hts _ tw_6_90) (fun _ h9 => h9) rfl dX12_packs_105 ?_
              refine lv_iload hx hb dX12_packs_108 (lv_at hl 4 rfl) ?_
              refine lv_dup2_11 hx hb dX12_packs_110 rfl rfl ?_
              refine va_iald hx hb hK hP 3 0 rfl rfl (z_in (by omega) (by omega)) dX12_packs_111 ?_
              refine lv_topi (fun x_28 ex_28 => ?_)
              refine lv_aload_n hx hb dX12_packs_112 rfl (lv_at hl 0 rfl) ?_
              refine va_get (D := D) (ci := 12) (v := .ref m20) (C := RX12) (T := TX12) (N := 42) hx hb hts iT_X12 hown hK hP 0 rfl rfl 20 (by decide) (hts _ tw_6_73) (fun _ h9 => h9) rfl dX12_packs_113 ?_
              refine lv_iconst (v := 4) hx hb dX12_packs_116 (by decide) ?_
              refine lv_iload_n hx hb dX12_packs_117 rfl (lv_at hl 1 rfl) ?_
              refine lv_imul hx hb dX12_packs_118 ?_
              refine lv_topi (fun x_29 ex_29 => ?_)
              obtain rfl : x_29 = 0 := ex_29.trans (by decide)
              refine lv_iconst (v := 3) hx hb dX12_packs_119 (by decide) ?_
              refine lv_iadd hx hb dX12_packs_120 ?_
              refine lv_topi (fun x_30 ex_30 => ?_)
              obtain rfl : x_30 = 3 := ex_30.trans (by decide)
              refine va_iald hx hb hK hP 2 0 rfl rfl (z_in (by decide) (by decide)) dX12_packs_121 ?_
              refine lv_topi (fun x_31 ex_31 => ?_)
              obtain rfl : x_10 = x_31 := ex_10.trans ex_31.symm
              refine lv_iadd hx hb dX12_packs_122 ?_
              refine lv_topi (fun x_32 ex_32 => ?_)
              have zrx_28 := z_rng x_28
              refine va_iast hx hb hK hP hD hS 3 0 rfl rfl (z_in (by omega) (by omega)) dX12_packs_123 (fun H locs hP hD hS => ?_)
              obtain ⟨g_33, eg_33⟩ : ∃ z : Nat → Int32, upd o_23 L15l4.toNatClampNeg x_32 = z := ⟨_, rfl⟩
              have hP : va_P D vwCl [(mo, .inr (12, [.int v0, .ref m1, .ref m2, .ref m3, .ref m4, .ref m5, .int v6, .int v7, .int v8, .int v9, .int v10, .long v11, .int v12, .int v13, .int v14, .int v15, .ref m16, .ref m17, .ref m18, .ref m19, .ref m20, .ref m21, .ref m22, .ref m23, .int v24, .ref m25, .ref m26, .ref m27, .ref m28, .ref m29, .int v30, .ref m31, .ref m32, .ref m33, .int v34, .int v35, .int v36, .ref m37, .ref m38, .ref m39, .ref m40, .long v41])), (m17, .inl (k 0, 30, .inl f17)), (m20, .inl (k 0, 120, .inl f20)), (m37, .inl (k 0, 6, .inl (upd o_23 L15l4.toNatClampNeg x_32))), (m38, .inl (k 0, 6, .inl o_24))] H := hP
              have hD : va_D A [(mo, .inr (12, [.int v0, .ref m1, .ref m2, .ref m3, .ref m4, .ref m5, .int v6, .int v7, .int v8, .int v9, .int v10, .long v11, .int v12, .int v13, .int v14, .int v15, .ref m16, .ref m17, .ref m18, .ref m19, .ref m20, .ref m21, .ref m22, .ref m23, .int v24, .ref m25, .ref m26, .ref m27, .ref m28, .ref m29, .int v30, .ref m31, .ref m32, .ref m33, .int v34, .int v35, .int v36, .ref m37, .ref m38, .ref m39, .ref m40, .long v41])), (m17, .inl (k 0, 30, .inl f17)), (m20, .inl (k 0, 120, .inl f20)), (m37, .inl (k 0, 6, .inl (upd o_23 L15l4.toNatClampNeg x_32))), (m38, .inl (k 0, 6, .inl o_24))] := hD
              rw [eg_33] at hP hD
              obtain ⟨x_34, ex_34⟩ : ∃ y : Int32, y = L15l4 + 1 := ⟨_, rfl⟩
              have zx_34 : x_34.toInt = L15l4.toInt + 1 := by rw [ex_34]; exact z_add rfl rfl (by omega) (by omega)
              refine lv_iinc (v := x_34) (lv' := [(4, .int x_34), (0, .ref mo), (1, .int 0), (2, .int p1), (3, .int p2)]) hx hb dX12_packs_124 hl (k := 4) rfl (by rw [ex_34]; rfl) (by decide) rfl (fun ls hl => ?_)
              refine lv_goto (tgt := 15) hx hb dX12_packs_127 (by decide) ?_
              exact ih_3 _ _ _ _ (by omega) ⟨x_34, g_33, o_24, rfl, (show 0 ≤ x_34.toInt ∧ x_34.toInt ≤ 1 from by omega), hP.sub (ws' := [(mo, .inr (12, [.int v0, .ref m1, .ref m2, .ref m3, .ref m4, .ref m5, .int v6, .int v7, .int v8, .int v9, .int v10, .long v11, .int v12, .int v13, .int v14, .int v15, .ref m16, .ref m17, .ref m18, .ref m19, .ref m20, .ref m21, .ref m22, .ref m23, .int v24, .ref m25, .ref m26, .ref m27, .ref m28, .ref m29, .int v30, .ref m31, .ref m32, .ref m33, .int v34, .int v35, .int v36, .ref m37, .ref m38, .ref m39, .ref m40, .long v41])), (m17, .inl (k 0, 30, .inl f17)), (m20, .inl (k 0, 120, .inl f20)), (m37, .inl (k 0, 6, .inl g_33)), (m38, .inl (k 0, 6, .inl o_24))]) [0, 1, 2, 3, 4] rfl, hD.sub (ws' := [(mo, .inr (12, [.int v0, .ref m1, .ref m2, .ref m3, .ref m4, .ref m5, .int v6, .int v7, .int v8, .int v9, .int v10, .long v11, .int v12, .int v13, .int v14, .int v15, .ref m16, .ref m17, .ref m18, .ref m19, .ref m20, .ref m21, .ref m22, .ref m23, .int v24, .ref m25, .ref m26, .ref m27, .ref m28, .ref m29, .int v30, .ref m31, .ref m32, .ref m33, .int v34, .int v35, .int v36, .ref m37, .ref m38, .ref m39, .ref m40, .long v41])), (m17, .inl (k 0, 30, .inl f17)), (m20, .inl (k 0, 120, .inl f20)), (m37, .inl (k 0, 6, .inl g_33)), (m38, .inl (k 0, 6, .inl o_24))]) [0, 1, 2, 3, 4] (by decide +kernel) rfl, hS, lv_sub hl [1, 2, 3, 4, 0] rfl⟩
            · skip
              have zh_27 : ¬ r_22.toInt = 0 := z_ne h_27
              refine lv_iconst (v := 1) hx hb dX12_packs_102 (by decide) ?_
              obtain ⟨hP9, hD9⟩ := sub2 hP hD (ws' := [(mo, .inr (12, [.int v0, .ref m1, .ref m2, .ref m3, .ref m4, .ref m5, .int v6, .int v7, .int v8, .int v9, .int v10, .long v11, .int v12, .int v13, .int v14, .int v15, .ref m16, .ref m17, .ref m18, .ref m19, .ref m20, .ref m21, .ref m22, .ref m23, .int v24, .ref m25, .ref m26, .ref m27, .ref m28, .ref m29, .int v30, .ref m31, .ref m32, .ref m33, .int v34, .int v35, .int v36, .ref m37, .ref m38, .ref m39, .ref m40, .long v41])), (m17, .inl (k 0, 30, .inl f17)), (m20, .inl (k 0, 120, .inl f20)), (m37, .inl (k 0, 6, .inl o_23)), (m38, .inl (k 0, 6, .inl o_24))]) [0, 1, 2, 3, 4] (by decide +kernel) rfl
              exact W.zret (v := 1) hx hb hr (by decide) (fun tZ ht hW => ⟨⟨1, (o_23, o_24), rfl, (show 0 ≤ 1 ∧ 1 ≤ 1 from by omega), by rw [ht]; exact hP9, va_K.moved hW.alike hK, hD9⟩, hS.F ht⟩) hS.2.2 dX12_packs_103
        · skip
          have zh_11 : x_7.toInt < x_10.toInt := z_nle h_11
          refine lv_goto (tgt := 124) hx hb dX12_packs_47 (by decide) ?_
          obtain ⟨x_35, ex_35⟩ : ∃ y : Int32, y = L15l4 + 1 := ⟨_, rfl⟩
          have zx_35 : x_35.toInt = L15l4.toInt + 1 := by rw [ex_35]; exact z_add rfl rfl (by omega) (by omega)
          refine lv_iinc (v := x_35) (lv' := [(4, .int x_35), (0, .ref mo), (1, .int 0), (2, .int p1), (3, .int p2)]) hx hb dX12_packs_124 hl (k := 4) rfl (by rw [ex_35]; rfl) (by decide) rfl (fun ls hl => ?_)
          refine lv_goto (tgt := 15) hx hb dX12_packs_127 (by decide) ?_
          exact ih_3 _ _ _ _ (by omega) ⟨x_35, L15a3, L15a4, rfl, (show 0 ≤ x_35.toInt ∧ x_35.toInt ≤ 1 from by omega), hP.sub (ws' := [(mo, .inr (12, [.int v0, .ref m1, .ref m2, .ref m3, .ref m4, .ref m5, .int v6, .int v7, .int v8, .int v9, .int v10, .long v11, .int v12, .int v13, .int v14, .int v15, .ref m16, .ref m17, .ref m18, .ref m19, .ref m20, .ref m21, .ref m22, .ref m23, .int v24, .ref m25, .ref m26, .ref m27, .ref m28, .ref m29, .int v30, .ref m31, .ref m32, .ref m33, .int v34, .int v35, .int v36, .ref m37, .ref m38, .ref m39, .ref m40, .long v41])), (m17, .inl (k 0, 30, .inl f17)), (m20, .inl (k 0, 120, .inl f20)), (m37, .inl (k 0, 6, .inl L15a3)), (m38, .inl (k 0, 6, .inl L15a4))]) [0, 1, 2, 3, 4] rfl, hD.sub (ws' := [(mo, .inr (12, [.int v0, .ref m1, .ref m2, .ref m3, .ref m4, .ref m5, .int v6, .int v7, .int v8, .int v9, .int v10, .long v11, .int v12, .int v13, .int v14, .int v15, .ref m16, .ref m17, .ref m18, .ref m19, .ref m20, .ref m21, .ref m22, .ref m23, .int v24, .ref m25, .ref m26, .ref m27, .ref m28, .ref m29, .int v30, .ref m31, .ref m32, .ref m33, .int v34, .int v35, .int v36, .ref m37, .ref m38, .ref m39, .ref m40, .long v41])), (m17, .inl (k 0, 30, .inl f17)), (m20, .inl (k 0, 120, .inl f20)), (m37, .inl (k 0, 6, .inl L15a3)), (m38, .inl (k 0, 6, .inl L15a4))]) [0, 1, 2, 3, 4] (by decide +kernel) rfl, hS, lv_sub hl [1, 2, 3, 4, 0] rfl⟩
  · skip
    have zh_2 : 0 = x_1.toInt := z_eq h_2
    refine lv_iconst (v := 1) hx hb dX12_packs_10 (by decide) ?_
    obtain ⟨hP9, hD9⟩ := sub2 hP hD (ws' := [(mo, .inr (12, [.int v0, .ref m1, .ref m2, .ref m3, .ref m4, .ref m5, .int v6, .int v7, .int v8, .int v9, .int v10, .long v11, .int v12, .int v13, .int v14, .int v15, .ref m16, .ref m17, .ref m18, .ref m19, .ref m20, .ref m21, .ref m22, .ref m23, .int v24, .ref m25, .ref m26, .ref m27, .ref m28, .ref m29, .int v30, .ref m31, .ref m32, .ref m33, .int v34, .int v35, .int v36, .ref m37, .ref m38, .ref m39, .ref m40, .long v41])), (m17, .inl (k 0, 30, .inl f17)), (m20, .inl (k 0, 120, .inl f20)), (m37, .inl (k 0, 6, .inl f37)), (m38, .inl (k 0, 6, .inl f38))]) [0, 1, 2, 3, 4] (by decide +kernel) rfl
    exact W.zret (v := 1) hx hb hr (by decide) (fun tZ ht hW => ⟨⟨1, (f37, f38), rfl, (show 0 ≤ 1 ∧ 1 ≤ 1 from by omega), by rw [ht]; exact hP9, va_K.moved hW.alike hK, hD9⟩, hS.F ht⟩) hS.2.2 dX12_packs_11
set_option maxHeartbeats 4000000 in
set_option maxRecDepth 100000 in
theorem c_X12_cartsOf (l : Launch) (D : va_G) (k : Nat → ClassId) (mo : Nat) (p0 : Int32) (v0 : Int32) (m1 : Nat) (m2 : Nat) (m3 : Nat) (m4 : Nat) (m5 : Nat) (v6 : Int32) (v7 : Int32) (v8 : Int32) (v9 : Int32) (v10 : Int32) (v11 : Int64) (v12 : Int32) (v13 : Int32) (v14 : Int32) (v15 : Int32) (m16 : Nat) (m17 : Nat) (m18 : Nat) (m19 : Nat) (m20 : Nat) (m21 : Nat) (m22 : Nat) (m23 : Nat) (v24 : Int32) (m25 : Nat) (m26 : Nat) (m27 : Nat) (m28 : Nat) (m29 : Nat) (v30 : Int32) (m31 : Nat) (m32 : Nat) (m33 : Nat) (v34 : Int32) (v35 : Int32) (v36 : Int32) (m37 : Nat) (m38 : Nat) (m39 : Nat) (m40 : Nat) (v41 : Int64) (f17 : Nat → Int32) (f20 : Nat → Int32) (f37 : Nat → Int32) (f38 : Nat → Int32) (sz : Nat) (h_v6 : 0 ≤ v6.toInt ∧ v6.toInt ≤ 1000) (h_v24 : 0 ≤ v24.toInt ∧ v24.toInt ≤ 1023) (hp_f17_0 : PR 30 6 0 0 8 f17) (hp_f17_1 : PR 30 6 1 0 10 f17) (hp_f17_2 : PR 30 6 2 0 4 f17) (hp_f17_3 : PR 30 6 3 0 6 f17) (hp_f17_4 : PR 30 6 4 0 2 f17) (hp_f17_5 : PR 30 6 5 0 40 f17) (hp_f20_0 : PR 120 4 0 0 7 f20) : Met l yX12_cartsOf (ww yX12_cartsOf cX12_cartsOf 4 (some .int)) ({ frames := 7, cells := 0, slots := 0, locals := 168 }) (Pre0 D k [(mo, .inr (12, [.int v0, .ref m1, .ref m2, .ref m3, .ref m4, .ref m5, .int v6, .int v7, .int v8, .int v9, .int v10, .long v11, .int v12, .int v13, .int v14, .int v15, .ref m16, .ref m17, .ref m18, .ref m19, .ref m20, .ref m21, .ref m22, .ref m23, .int v24, .ref m25, .ref m26, .ref m27, .ref m28, .ref m29, .int v30, .ref m31, .ref m32, .ref m33, .int v34, .int v35, .int v36, .ref m37, .ref m38, .ref m39, .ref m40, .long v41])), (m17, .inl (k 0, 30, .inl f17)), (m20, .inl (k 0, 120, .inl f20)), (m37, .inl (k 0, 6, .inl f37)), (m38, .inl (k 0, 6, .inl f38))] sz [.ref mo, .int p0]) (va_Qi (fun (r : Int32) (u : (Nat → Int32) × (Nat → Int32)) => match u with | (f37z, f38z) => ((-1) ≤ r.toInt ∧ r.toInt ≤ 6)) (fun (u : (Nat → Int32) × (Nat → Int32)) tZ => match u with | (f37z, f38z) => Bw D k (va_A [(mo, .inr (12, [.int v0, .ref m1, .ref m2, .ref m3, .ref m4, .ref m5, .int v6, .int v7, .int v8, .int v9, .int v10, .long v11, .int v12, .int v13, .int v14, .int v15, .ref m16, .ref m17, .ref m18, .ref m19, .ref m20, .ref m21, .ref m22, .ref m23, .int v24, .ref m25, .ref m26, .ref m27, .ref m28, .ref m29, .int v30, .ref m31, .ref m32, .ref m33, .int v34, .int v35, .int v36, .ref m37, .ref m38, .ref m39, .ref m40, .long v41])), (m17, .inl (k 0, 30, .inl f17)), (m20, .inl (k 0, 120, .inl f20)), (m37, .inl (k 0, 6, .inl f37)), (m38, .inl (k 0, 6, .inl f38))] sz) [(mo, .inr (12, [.int v0, .ref m1, .ref m2, .ref m3, .ref m4, .ref m5, .int v6, .int v7, .int v8, .int v9, .int v10, .long v11, .int v12, .int v13, .int v14, .int v15, .ref m16, .ref m17, .ref m18, .ref m19, .ref m20, .ref m21, .ref m22, .ref m23, .int v24, .ref m25, .ref m26, .ref m27, .ref m28, .ref m29, .int v30, .ref m31, .ref m32, .ref m33, .int v34, .int v35, .int v36, .ref m37, .ref m38, .ref m39, .ref m40, .long v41])), (m17, .inl (k 0, 30, .inl f17)), (m20, .inl (k 0, 120, .inl f20)), (m37, .inl (k 0, 6, .inl f37z)), (m38, .inl (k 0, 6, .inl f38z))] tZ) (va_A [(mo, .inr (12, [.int v0, .ref m1, .ref m2, .ref m3, .ref m4, .ref m5, .int v6, .int v7, .int v8, .int v9, .int v10, .long v11, .int v12, .int v13, .int v14, .int v15, .ref m16, .ref m17, .ref m18, .ref m19, .ref m20, .ref m21, .ref m22, .ref m23, .int v24, .ref m25, .ref m26, .ref m27, .ref m28, .ref m29, .int v30, .ref m31, .ref m32, .ref m33, .int v34, .int v35, .int v36, .ref m37, .ref m38, .ref m39, .ref m40, .long v41])), (m17, .inl (k 0, 30, .inl f17)), (m20, .inl (k 0, 120, .inl f20)), (m37, .inl (k 0, 6, .inl f37)), (m38, .inl (k 0, 6, .inl f38))] sz)) 0 0 (va_A [(mo, .inr (12, [.int v0, .ref m1, .ref m2, .ref m3, .ref m4, .ref m5, .int v6, .int v7, .int v8, .int v9, .int v10, .long v11, .int v12, .int v13, .int v14, .int v15, .ref m16, .ref m17, .ref m18, .ref m19, .ref m20, .ref m21, .ref m22, .ref m23, .int v24, .ref m25, .ref m26, .ref m27, .ref m28, .ref m29, .int v30, .ref m31, .ref m32, .ref m33, .int v34, .int v35, .int v36, .ref m37, .ref m38, .ref m39, .ref m40, .long v41])), (m17, .inl (k 0, 30, .inl f17)), (m20, .inl (k 0, 120, .inl f20)), (m37, .inl (k 0, 6, .inl f37)), (m38, .inl (k 0, 6, .inl f38))] sz) := by
  refine Met.ofW (cc := cX12_cartsOf) (maxL := 4) (ret := (some .int)) (by decide +kernel) rfl ?_
  intro p e s m args below meth c s₁ B hml hv
  obtain ⟨rfl, hsz, hP, hK, hD0, hN⟩ := hv
  have hx := B.exec
  have hb := B.bytes
  have hr := B.returns
  have hts : ∀ w ∈ TT, w.before _ s = true := fun w h => atoms_spec (ws := ww yX12_cartsOf cX12_cartsOf 4 (some .int)) B.pre w (List.mem_cons_of_mem _ h)
  have hown : s.vm.findClass RX12 = some m.cls := findClass_of_methodNamed B.named
  have hlocks := B.notSynchronized
  subst hsz
  have hD := hD0.self (sz := s.heap.size)
  generalize hAe : va_A [(mo, .inr (12, [.int v0, .ref m1, .ref m2, .ref m3, .ref m4, .ref m5, .int v6, .int v7, .int v8, .int v9, .int v10, .long v11, .int v12, .int v13, .int v14, .int v15, .ref m16, .ref m17, .ref m18, .ref m19, .ref m20, .ref m21, .ref m22, .ref m23, .int v24, .ref m25, .ref m26, .ref m27, .ref m28, .ref m29, .int v30, .ref m31, .ref m32, .ref m33, .int v34, .int v35, .int v36, .ref m37, .ref m38, .ref m39, .ref m40, .long v41])), (m17, .inl (k 0, 30, .inl f17)), (m20, .inl (k 0, 120, .inl f20)), (m37, .inl (k 0, 6, .inl f37)), (m38, .inl (k 0, 6, .inl f38))] s.heap.size = A at hD ⊢
  have hA : ∀ q : Nat, s.heap.size ≤ q → A q := fun q h => by rw [← hAe]; exact Or.inr h
  have hS : va_S A s.heap s.heap [] := va_S.rf
  have hl := lv_entry ([.ref mo, .int p0]) (n := 4) (Nat.le_of_ble_eq_true rfl)
  rw [lg_entry_eq]
  generalize (lg_sl ([.ref mo, .int p0]) ++ List.replicate (4 - (lg_sl ([.ref mo, .int p0])).length) Slot.unset).toArray = ls at hl ⊢
  have hl : lv_has ls 4 [(0, .ref mo), (1, .int p0)] := hl
  refine lv_iconst (v := 0) hx hb dX12_cartsOf_0 (by decide) ?_
  refine lv_istore_n (lv' := [(2, .int 0), (0, .ref mo), (1, .int p0)]) hx hb dX12_cartsOf_1 rfl hl (by decide) rfl (fun ls hl => ?_)
  refine loop_r (Wg := fun H locs ls => W p l e _ s m _ below meth c H locs _ _ _ (F0 m 2 ls [])) (fun n9 H locs ls => ∃ (L2l2 : Int32) (L2a3 : Nat → Int32) (L2a4 : Nat → Int32), n9 = (7 - L2l2.toInt).toNat ∧ (0 ≤ L2l2.toInt ∧ L2l2.toInt ≤ 7) ∧ va_P D vwCl [(mo, .inr (12, [.int v0, .ref m1, .ref m2, .ref m3, .ref m4, .ref m5, .int v6, .int v7, .int v8, .int v9, .int v10, .long v11, .int v12, .int v13, .int v14, .int v15, .ref m16, .ref m17, .ref m18, .ref m19, .ref m20, .ref m21, .ref m22, .ref m23, .int v24, .ref m25, .ref m26, .ref m27, .ref m28, .ref m29, .int v30, .ref m31, .ref m32, .ref m33, .int v34, .int v35, .int v36, .ref m37, .ref m38, .ref m39, .ref m40, .long v41])), (m17, .inl (k 0, 30, .inl f17)), (m20, .inl (k 0, 120, .inl f20)), (m37, .inl (k 0, 6, .inl L2a3)), (m38, .inl (k 0, 6, .inl L2a4))] H ∧ va_D A [(mo, .inr (12, [.int v0, .ref m1, .ref m2, .ref m3, .ref m4, .ref m5, .int v6, .int v7, .int v8, .int v9, .int v10, .long v11, .int v12, .int v13, .int v14, .int v15, .ref m16, .ref m17, .ref m18, .ref m19, .ref m20, .ref m21, .ref m22, .ref m23, .int v24, .ref m25, .ref m26, .ref m27, .ref m28, .ref m29, .int v30, .ref m31, .ref m32, .ref m33, .int v34, .int v35, .int v36, .ref m37, .ref m38, .ref m39, .ref m40, .long v41])), (m17, .inl (k 0, 30, .inl f17)), (m20, .inl (k 0, 120, .inl f20)), (m37, .inl (k 0, 6, .inl L2a3)), (m38, .inl (k 0, 6, .inl L2a4))] ∧ va_S A s.heap H locs ∧ lv_has ls 4 [(0, .ref mo), (1, .int p0), (2, .int L2l2)]) (fun n9 H locs ls hI ih_1 => ?_) _ _ _ _ ⟨0, f37, f38, rfl, (show 0 ≤ 0 ∧ 0 ≤ 7 from by omega), hP.sub (ws' := [(mo, .inr (12, [.int v0, .ref m1, .ref m2, .ref m3, .ref m4, .ref m5, .int v6, .int v7, .int v8, .int v9, .int v10, .long v11, .int v12, .int v13, .int v14, .int v15, .ref m16, .ref m17, .ref m18, .ref m19, .ref m20, .ref m21, .ref m22, .ref m23, .int v24, .ref m25, .ref m26, .ref m27, .ref m28, .ref m29, .int v30, .ref m31, .ref m32, .ref m33, .int v34, .int v35, .int v36, .ref m37, .ref m38, .ref m39, .ref m40, .long v41])), (m17, .inl (k 0, 30, .inl f17)), (m20, .inl (k 0, 120, .inl f20)), (m37, .inl (k 0, 6, .inl f37)), (m38, .inl (k 0, 6, .inl f38))]) [0, 1, 2, 3, 4] rfl, hD.sub (ws' := [(mo, .inr (12, [.int v0, .ref m1, .ref m2, .ref m3, .ref m4, .ref m5, .int v6, .int v7, .int v8, .int v9, .int v10, .long v11, .int v12, .int v13, .int v14, .int v15, .ref m16, .ref m17, .ref m18, .ref m19, .ref m20, .ref m21, .ref m22, .ref m23, .int v24, .ref m25, .ref m26, .ref m27, .ref m28, .ref m29, .int v30, .ref m31, .ref m32, .ref m33, .int v34, .int v35, .int v36, .ref m37, .ref m38, .ref m39, .ref m40, .long v41])), (m17, .inl (k 0, 30, .inl f17)), (m20, .inl (k 0, 120, .inl f20)), (m37, .inl (k 0, 6, .inl f37)), (m38, .inl (k 0, 6, .inl f38))]) [0, 1, 2, 3, 4] (by decide +kernel) rfl, hS, lv_sub hl [1, 2, 0] rfl⟩
  clear hP hD hS hl
  obtain ⟨L2l2, L2a3, L2a4, en_2, zL2l2, hP, hD, hS, hl⟩ := hI
  refine lv_iload_n hx hb dX12_cartsOf_2 rfl (lv_at hl 2 rfl) ?_
  refine lv_bipush (v := 6) hx hb dX12_cartsOf_3 (by decide) ?_
  refine lv_icmp_gt (tgt := 47) hx hb dX12_cartsOf_5 (by decide) (fun h_3 => ?_) (fun h_3 => ?_)
  · skip
    have zh_3 : 6 < L2l2.toInt := z_lt h_3
    refine lv_iconst (v := (-1)) hx hb dX12_cartsOf_47 (by decide) ?_
    obtain ⟨hP9, hD9⟩ := sub2 hP hD (ws' := [(mo, .inr (12, [.int v0, .ref m1, .ref m2, .ref m3, .ref m4, .ref m5, .int v6, .int v7, .int v8, .int v9, .int v10, .long v11, .int v12, .int v13, .int v14, .int v15, .ref m16, .ref m17, .ref m18, .ref m19, .ref m20, .ref m21, .ref m22, .ref m23, .int v24, .ref m25, .ref m26, .ref m27, .ref m28, .ref m29, .int v30, .ref m31, .ref m32, .ref m33, .int v34, .int v35, .int v36, .ref m37, .ref m38, .ref m39, .ref m40, .long v41])), (m17, .inl (k 0, 30, .inl f17)), (m20, .inl (k 0, 120, .inl f20)), (m37, .inl (k 0, 6, .inl L2a3)), (m38, .inl (k 0, 6, .inl L2a4))]) [0, 1, 2, 3, 4] (by decide +kernel) rfl
    exact W.iret (v := (-1)) hx hb hr (fun tZ ht hW => ⟨⟨(-1), (L2a3, L2a4), rfl, (show (-1) ≤ (-1) ∧ (-1) ≤ 6 from by omega), by rw [ht]; exact hP9, va_K.moved hW.alike hK, hD9⟩, hS.F ht⟩) hS.2.2 dX12_cartsOf_48
  · skip
    have zh_3 : L2l2.toInt ≤ 6 := z_nlt h_3
    refine lv_iconst (v := 0) hx hb dX12_cartsOf_8 (by decide) ?_
    refine lv_istore_n (lv' := [(3, .int 0), (0, .ref mo), (1, .int p0), (2, .int L2l2)]) hx hb dX12_cartsOf_9 rfl hl (by decide) rfl (fun ls hl => ?_)
    refine loop_r (Wg := fun H locs ls => W p l e _ s m _ below meth c H locs _ _ _ (F0 m 10 ls [])) (fun n9 H locs ls => ∃ (L10l3 : Int32) (L10a3 : Nat → Int32), n9 = (6 - L10l3.toInt).toNat ∧ (0 ≤ L10l3.toInt ∧ L10l3.toInt ≤ 6) ∧ va_P D vwCl [(mo, .inr (12, [.int v0, .ref m1, .ref m2, .ref m3, .ref m4, .ref m5, .int v6, .int v7, .int v8, .int v9, .int v10, .long v11, .int v12, .int v13, .int v14, .int v15, .ref m16, .ref m17, .ref m18, .ref m19, .ref m20, .ref m21, .ref m22, .ref m23, .int v24, .ref m25, .ref m26, .ref m27, .ref m28, .ref m29, .int v30, .ref m31, .ref m32, .ref m33, .int v34, .int v35, .int v36, .ref m37, .ref m38, .ref m39, .ref m40, .long v41])), (m17, .inl (k 0, 30, .inl f17)), (m20, .inl (k 0, 120, .inl f20)), (m37, .inl (k 0, 6, .inl L10a3)), (m38, .inl (k 0, 6, .inl L2a4))] H ∧ va_D A [(mo, .inr (12, [.int v0, .ref m1, .ref m2, .ref m3, .ref m4, .ref m5, .int v6, .int v7, .int v8, .int v9, .int v10, .long v11, .int v12, .int v13, .int v14, .int v15, .ref m16, .ref m17, .ref m18, .ref m19, .ref m20, .ref m21, .ref m22, .ref m23, .int v24, .ref m25, .ref m26, .ref m27, .ref m28, .ref m29, .int v30, .ref m31, .ref m32, .ref m33, .int v34, .int v35, .int v36, .ref m37, .ref m38, .ref m39, .ref m40, .long v41])), (m17, .inl (k 0, 30, .inl f17)), (m20, .inl (k 0, 120, .inl f20)), (m37, .inl (k 0, 6, .inl L10a3)), (m38, .inl (k 0, 6, .inl L2a4))] ∧ va_S A s.heap H locs ∧ lv_has ls 4 [(0, .ref mo), (1, .int p0), (2, .int L2l2), (3, .int L10l3)]) (fun n9 H locs ls hI ih_4 => ?_) _ _ _ _ ⟨0, L2a3, rfl, (show 0 ≤ 0 ∧ 0 ≤ 6 from by omega), hP.sub (ws' := [(mo, .inr (12, [.int v0, .ref m1, .ref m2, .ref m3, .ref m4, .ref m5, .int v6, .int v7, .int v8, .int v9, .int v10, .long v11, .int v12, .int v13, .int v14, .int v15, .ref m16, .ref m17, .ref m18, .ref m19, .ref m20, .ref m21, .ref m22, .ref m23, .int v24, .ref m25, .ref m26, .ref m27, .ref m28, .ref m29, .int v30, .ref m31, .ref m32, .ref m33, .int v34, .int v35, .int v36, .ref m37, .ref m38, .ref m39, .ref m40, .long v41])), (m17, .inl (k 0, 30, .inl f17)), (m20, .inl (k 0, 120, .inl f20)), (m37, .inl (k 0, 6, .inl L2a3)), (m38, .inl (k 0, 6, .inl L2a4))]) [0, 1, 2, 3, 4] rfl, hD.sub (ws' := [(mo, .inr (12, [.int v0, .ref m1, .ref m2, .ref m3, .ref m4, .ref m5, .int v6, .int v7, .int v8, .int v9, .int v10, .long v11, .int v12, .int v13, .int v14, .int v15, .ref m16, .ref m17, .ref m18, .ref m19, .ref m20, .ref m21, .ref m22, .ref m23, .int v24, .ref m25, .ref m26, .ref m27, .ref m28, .ref m29, .int v30, .ref m31, .ref m32, .ref m33, .int v34, .int v35, .int v36, .ref m37, .ref m38, .ref m39, .ref m40, .long v41])), (m17, .inl (k 0, 30, .inl f17)), (m20, .inl (k 0, 120, .inl f20)), (m37, .inl (k 0, 6, .inl L2a3)), (m38, .inl (k 0, 6, .inl L2a4))]) [0, 1, 2, 3, 4] (by decide +kernel) rfl, hS, lv_sub hl [1, 2, 3, 0] rfl⟩
    clear hP hD hS hl
    obtain ⟨L10l3, L10a3, en_5, zL10l3, hP, hD, hS, hl⟩ := hI
    refine lv_iload_n hx hb dX12_cartsOf_10 rfl (lv_at hl 3 rfl) ?_
    refine lv_bipush (v := 6) hx hb dX12_cartsOf_11 (by decide) ?_
    refine lv_icmp_ge (tgt := 29) hx hb dX12_cartsOf_13 (by decide) (fun h_6 => ?_) (fun h_6 => ?_)
    · skip
      have zh_6 : 6 ≤ L10l3.toInt := z_le h_6
      refine lv_aload_n hx hb dX12_cartsOf_29 rfl (lv_at hl 0 rfl) ?_
      refine lv_iconst (v := 0) hx hb dX12_cartsOf_30 (by decide) ?_
      refine lv_iconst (v := 0) hx hb dX12_cartsOf_31 (by decide) ?_
      refine lv_iload_n hx hb dX12_cartsOf_32 rfl (lv_at hl 2 rfl) ?_
      obtain ⟨hPc, hDc, hFc⟩ := sub3 hP hD hS hA (ws' := [(mo, .inr (12, [.int v0, .ref m1, .ref m2, .ref m3, .ref m4, .ref m5, .int v6, .int v7, .int v8, .int v9, .int v10, .long v11, .int v12, .int v13, .int v14, .int v15, .ref m16, .ref m17, .ref m18, .ref m19, .ref m20, .ref m21, .ref m22, .ref m23, .int v24, .ref m25, .ref m26, .ref m27, .ref m28, .ref m29, .int v30, .ref m31, .ref m32, .ref m33, .int v34, .int v35, .int v36, .ref m37, .ref m38, .ref m39, .ref m40, .long v41])), (m17, .inl (k 0, 30, .inl f17)), (m20, .inl (k 0, 120, .inl f20)), (m37, .inl (k 0, 6, .inl L10a3)), (m38, .inl (k 0, 6, .inl L2a4))]) [0, 1, 2, 3, 4] (by decide +kernel) rfl
      refine va_calli (va_runV (C := RX12) (As := [.int 0, .int 0, .int L2l2]) (rest := []) ⟨hx, hb, hml, hown, hts⟩ (c_X12_packs_6 l D k mo 0 L2l2 v0 m1 m2 m3 m4 m5 v6 v7 v8 v9 v10 v11 v12 v13 v14 v15 m16 m17 m18 m19 m20 m21 m22 m23 v24 m25 m26 m27 m28 m29 v30 m31 m32 m33 v34 v35 v36 m37 m38 m39 m40 v41 f17 f20 L10a3 L2a4 H.size (show 0 ≤ 0 ∧ 0 ≤ 0 from by omega) (show 0 ≤ L2l2.toInt ∧ L2l2.toInt ≤ 6 from by omega) (show 0 ≤ v6.toInt ∧ v6.toInt ≤ 1000 from by omega) (show 0 ≤ v24.toInt ∧ v24.toInt ≤ 1023 from by omega) hp_f17_0 hp_f17_1 hp_f17_2 hp_f17_3 hp_f17_4 hp_f17_5 hp_f20_0 (show 0 ≤ (f17 3).toInt from (hp_f17_3 3 (by decide) (by decide)).1)) (cwV 3 hts (gV tw_8_146 tw_8_148 tw_p_90 tw_1_13 tw_8_149) rfl rfl rfl hdV_X12_packs ⟨Nat.le_of_ble_eq_true rfl, Nat.le_of_ble_eq_true rfl⟩) (cz_V hK hPc hDc hN (ci := 12) (q0 := 0) rfl rfl [.int 0, .int 0, .int L2l2]) rfl rfl hl.1 rfl (lv_room (Nat.le_of_ble_eq_true rfl)) dX12_cartsOf_33 ⟨Nat.le_of_ble_eq_true rfl, Nat.le_of_ble_eq_true rfl⟩) hS (fun q _ h => hFc q h) hFc (fun r_7 uZ tZ H1 locs ht hvm hw hB hz1 hk1 hS => ?_)
      obtain ⟨o_8, o_9⟩ := uZ
      obtain ⟨hP1, hK1, hD1⟩ := hB
      rw [ht] at hP1
      obtain ⟨hP, hD⟩ := va_join (wr := []) (w1 := [(mo, .inr (12, [.int v0, .ref m1, .ref m2, .ref m3, .ref m4, .ref m5, .int v6, .int v7, .int v8, .int v9, .int v10, .long v11, .int v12, .int v13, .int v14, .int v15, .ref m16, .ref m17, .ref m18, .ref m19, .ref m20, .ref m21, .ref m22, .ref m23, .int v24, .ref m25, .ref m26, .ref m27, .ref m28, .ref m29, .int v30, .ref m31, .ref m32, .ref m33, .int v34, .int v35, .int v36, .ref m37, .ref m38, .ref m39, .ref m40, .long v41])), (m17, .inl (k 0, 30, .inl f17)), (m20, .inl (k 0, 120, .inl f20)), (m37, .inl (k 0, 6, .inl o_8)), (m38, .inl (k 0, 6, .inl o_9))]) hP hD [0, 1, 2, 3, 4] [] rfl rfl (by decide +kernel) (by decide +kernel) hk1 hFc hP1 hD1
      clear hK1 hP1 hD1 hPc hDc hFc
      clear hk1 hz1 ht hvm
      have hP : va_P D vwCl [(mo, .inr (12, [.int v0, .ref m1, .ref m2, .ref m3, .ref m4, .ref m5, .int v6, .int v7, .int v8, .int v9, .int v10, .long v11, .int v12, .int v13, .int v14, .int v15, .ref m16, .ref m17, .ref m18, .ref m19, .ref m20, .ref m21, .ref m22, .ref m23, .int v24, .ref m25, .ref m26, .ref m27, .ref m28, .ref m29, .int v30, .ref m31, .ref m32, .ref m33, .int v34, .int v35, .int v36, .ref m37, .ref m38, .ref m39, .ref m40, .long v41])), (m17, .inl (k 0, 30, .inl f17)), (m20, .inl (k 0, 120, .inl f20)), (m37, .inl (k 0, 6, .inl o_8)), (m38, .inl (k 0, 6, .inl o_9))] H1 := hP
      have hD : va_D A [(mo, .inr (12, [.int v0, .ref m1, .ref m2, .ref m3, .ref m4, .ref m5, .int v6, .int v7, .int v8, .int v9, .int v10, .long v11, .int v12, .int v13, .int v14, .int v15, .ref m16, .ref m17, .ref m18, .ref m19, .ref m20, .ref m21, .ref m22, .ref m23, .int v24, .ref m25, .ref m26, .ref m27, .ref m28, .ref m29, .int v30, .ref m31, .ref m32, .ref m33, .int v34, .int v35, .int v36, .ref m37, .ref m38, .ref m39, .ref m40, .long v41])), (m17, .inl (k 0, 30, .inl f17)), (m20, .inl (k 0, 120, .inl f20)), (m37, .inl (k 0, 6, .inl o_8)), (m38, .inl (k 0, 6, .inl o_9))] := hD
      generalize H1 = H at hP hS ⊢
      have hw_10 : (0 ≤ r_7.toInt ∧ r_7.toInt ≤ 1) := hw
      have hw_11 := hw_10
      clear hw
      refine lv_if_eq (tgt := 41) hx hb dX12_cartsOf_36 (by decide) (fun h_12 => ?_) (fun h_12 => ?_)
      · skip
        have zh_12 : r_7.toInt = 0 := z_eq h_12
        obtain ⟨x_13, ex_13⟩ : ∃ y : Int32, y = L2l2 + 1 := ⟨_, rfl⟩
        have zx_13 : x_13.toInt = L2l2.toInt + 1 := by rw [ex_13]; exact z_add rfl rfl (by omega) (by omega)
        refine lv_iinc (v := x_13) (lv' := [(2, .int x_13), (0, .ref mo), (1, .int p0), (3, .int L10l3)]) hx hb dX12_cartsOf_41 hl (k := 2) rfl (by rw [ex_13]; rfl) (by decide) rfl (fun ls hl => ?_)
        refine lv_goto (tgt := 2) hx hb dX12_cartsOf_44 (by decide) ?_
        exact ih_1 _ _ _ _ (by omega) ⟨x_13, o_8, o_9, rfl, (show 0 ≤ x_13.toInt ∧ x_13.toInt ≤ 7 from by omega), hP.sub (ws' := [(mo, .inr (12, [.int v0, .ref m1, .ref m2, .ref m3, .ref m4, .ref m5, .int v6, .int v7, .int v8, .int v9, .int v10, .long v11, .int v12, .int v13, .int v14, .int v15, .ref m16, .ref m17, .ref m18, .ref m19, .ref m20, .ref m21, .ref m22, .ref m23, .int v24, .ref m25, .ref m26, .ref m27, .ref m28, .ref m29, .int v30, .ref m31, .ref m32, .ref m33, .int v34, .int v35, .int v36, .ref m37, .ref m38, .ref m39, .ref m40, .long v41])), (m17, .inl (k 0, 30, .inl f17)), (m20, .inl (k 0, 120, .inl f20)), (m37, .inl (k 0, 6, .inl o_8)), (m38, .inl (k 0, 6, .inl o_9))]) [0, 1, 2, 3, 4] rfl, hD.sub (ws' := [(mo, .inr (12, [.int v0, .ref m1, .ref m2, .ref m3, .ref m4, .ref m5, .int v6, .int v7, .int v8, .int v9, .int v10, .long v11, .int v12, .int v13, .int v14, .int v15, .ref m16, .ref m17, .ref m18, .ref m19, .ref m20, .ref m21, .ref m22, .ref m23, .int v24, .ref m25, .ref m26, .ref m27, .ref m28, .ref m29, .int v30, .ref m31, .ref m32, .ref m33, .int v34, .int v35, .int v36, .ref m37, .ref m38, .ref m39, .ref m40, .long v41])), (m17, .inl (k 0, 30, .inl f17)), (m20, .inl (k 0, 120, .inl f20)), (m37, .inl (k 0, 6, .inl o_8)), (m38, .inl (k 0, 6, .inl o_9))]) [0, 1, 2, 3, 4] (by decide +kernel) rfl, hS, lv_sub hl [1, 2, 0] rfl⟩
      · skip
        have zh_12 : ¬ r_7.toInt = 0 := z_ne h_12
        refine lv_iload_n hx hb dX12_cartsOf_39 rfl (lv_at hl 2 rfl) ?_
        obtain ⟨hP9, hD9⟩ := sub2 hP hD (ws' := [(mo, .inr (12, [.int v0, .ref m1, .ref m2, .ref m3, .ref m4, .ref m5, .int v6, .int v7, .int v8, .int v9, .int v10, .long v11, .int v12, .int v13, .int v14, .int v15, .ref m16, .ref m17, .ref m18, .ref m19, .ref m20, .ref m21, .ref m22, .ref m23, .int v24, .ref m25, .ref m26, .ref m27, .ref m28, .ref m29, .int v30, .ref m31, .ref m32, .ref m33, .int v34, .int v35, .int v36, .ref m37, .ref m38, .ref m39, .ref m40, .long v41])), (m17, .inl (k 0, 30, .inl f17)), (m20, .inl (k 0, 120, .inl f20)), (m37, .inl (k 0, 6, .inl o_8)), (m38, .inl (k 0, 6, .inl o_9))]) [0, 1, 2, 3, 4] (by decide +kernel) rfl
        exact W.iret (v := L2l2) hx hb hr (fun tZ ht hW => ⟨⟨L2l2, (o_8, o_9), rfl, (show (-1) ≤ L2l2.toInt ∧ L2l2.toInt ≤ 6 from by omega), by rw [ht]; exact hP9, va_K.moved hW.alike hK, hD9⟩, hS.F ht⟩) hS.2.2 dX12_cartsOf_40
    · skip
      have zh_6 : L10l3.toInt < 6 := z_nle h_6
      refine lv_aload_n hx hb dX12_cartsOf_16 rfl (lv_at hl 0 rfl) ?_
      refine va_get (D := D) (ci := 12) (v := .ref m37) (C := RX12) (T := TX12) (N := 42) hx hb hts iT_X12 hown hK hP 0 rfl rfl 37 (by decide) (hts _ tw_6_90) (fun _ h9 => h9) rfl dX12_cartsOf_17 ?_
      refine lv_iload_n hx hb dX12_cartsOf_20 rfl (lv_at hl 3 rfl) ?_
      refine lv_iload_n hx hb dX12_cartsOf_21 rfl (lv_at hl 1 rfl) ?_
      refine va_iast hx hb hK hP hD hS 3 0 rfl rfl (z_in (by omega) (by omega)) dX12_cartsOf_22 (fun H locs hP hD hS => ?_)
      obtain ⟨g_14, eg_14⟩ : ∃ z : Nat → Int32, upd L10a3 L10l3.toNatClampNeg p0 = z := ⟨_, rfl⟩
      have hP : va_P D vwCl [(mo, .inr (12, [.int v0, .ref m1, .ref m2, .ref m3, .ref m4, .ref m5, .int v6, .int v7, .int v8, .int v9, .int v10, .long v11, .int v12, .int v13, .int v14, .int v15, .ref m16, .ref m17, .ref m18, .ref m19, .ref m20, .ref m21, .ref m22, .ref m23, .int v24, .ref m25, .ref m26, .ref m27, .ref m28, .ref m29, .int v30, .ref m31, .ref m32, .ref m33, .int v34, .int v35, .int v36, .ref m37, .ref m38, .ref m39, .ref m40, .long v41])), (m17, .inl (k 0, 30, .inl f17)), (m20, .inl (k 0, 120, .inl f20)), (m37, .inl (k 0, 6, .inl (upd L10a3 L10l3.toNatClampNeg p0))), (m38, .inl (k 0, 6, .inl L2a4))] H := hP
      have hD : va_D A [(mo, .inr (12, [.int v0, .ref m1, .ref m2, .ref m3, .ref m4, .ref m5, .int v6, .int v7, .int v8, .int v9, .int v10, .long v11, .int v12, .int v13, .int v14, .int v15, .ref m16, .ref m17, .ref m18, .ref m19, .ref m20, .ref m21, .ref m22, .ref m23, .int v24, .ref m25, .ref m26, .ref m27, .ref m28, .ref m29, .int v30, .ref m31, .ref m32, .ref m33, .int v34, .int v35, .int v36, .ref m37, .ref m38, .ref m39, .ref m40, .long v41])), (m17, .inl (k 0, 30, .inl f17)), (m20, .inl (k 0, 120, .inl f20)), (m37, .inl (k 0, 6, .inl (upd L10a3 L10l3.toNatClampNeg p0))), (m38, .inl (k 0, 6, .inl L2a4))] := hD
      rw [eg_14] at hP hD
      obtain ⟨x_15, ex_15⟩ : ∃ y : Int32, y = L10l3 + 1 := ⟨_, rfl⟩
      have zx_15 : x_15.toInt = L10l3.toInt + 1 := by rw [ex_15]; exact z_add rfl rfl (by omega) (by omega)
      refine lv_iinc (v := x_15) (lv' := [(3, .int x_15), (0, .ref mo), (1, .int p0), (2, .int L2l2)]) hx hb dX12_cartsOf_23 hl (k := 3) rfl (by rw [ex_15]; rfl) (by decide) rfl (fun ls hl => ?_)
      refine lv_goto (tgt := 10) hx hb dX12_cartsOf_26 (by decide) ?_
      exact ih_4 _ _ _ _ (by omega) ⟨x_15, g_14, rfl, (show 0 ≤ x_15.toInt ∧ x_15.toInt ≤ 6 from by omega), hP.sub (ws' := [(mo, .inr (12, [.int v0, .ref m1, .ref m2, .ref m3, .ref m4, .ref m5, .int v6, .int v7, .int v8, .int v9, .int v10, .long v11, .int v12, .int v13, .int v14, .int v15, .ref m16, .ref m17, .ref m18, .ref m19, .ref m20, .ref m21, .ref m22, .ref m23, .int v24, .ref m25, .ref m26, .ref m27, .ref m28, .ref m29, .int v30, .ref m31, .ref m32, .ref m33, .int v34, .int v35, .int v36, .ref m37, .ref m38, .ref m39, .ref m40, .long v41])), (m17, .inl (k 0, 30, .inl f17)), (m20, .inl (k 0, 120, .inl f20)), (m37, .inl (k 0, 6, .inl g_14)), (m38, .inl (k 0, 6, .inl L2a4))]) [0, 1, 2, 3, 4] rfl, hD.sub (ws' := [(mo, .inr (12, [.int v0, .ref m1, .ref m2, .ref m3, .ref m4, .ref m5, .int v6, .int v7, .int v8, .int v9, .int v10, .long v11, .int v12, .int v13, .int v14, .int v15, .ref m16, .ref m17, .ref m18, .ref m19, .ref m20, .ref m21, .ref m22, .ref m23, .int v24, .ref m25, .ref m26, .ref m27, .ref m28, .ref m29, .int v30, .ref m31, .ref m32, .ref m33, .int v34, .int v35, .int v36, .ref m37, .ref m38, .ref m39, .ref m40, .long v41])), (m17, .inl (k 0, 30, .inl f17)), (m20, .inl (k 0, 120, .inl f20)), (m37, .inl (k 0, 6, .inl g_14)), (m38, .inl (k 0, 6, .inl L2a4))]) [0, 1, 2, 3, 4] (by decide +kernel) rfl, hS, lv_sub hl [1, 2, 3, 0] rfl⟩
set_option maxHeartbeats 4000000 in
set_option maxRecDepth 100000 in
theorem c_X12_isCart (l : Launch) (D : va_G) (k : Nat → ClassId) (mo : Nat) (p0 : Int32) (v0 : Int32) (m1 : Nat) (m2 : Nat) (m3 : Nat) (m4 : Nat) (m5 : Nat) (v6 : Int32) (v7 : Int32) (v8 : Int32) (v9 : Int32) (v10 : Int32) (v11 : Int64) (v12 : Int32) (v13 : Int32) (v14 : Int32) (v15 : Int32) (m16 : Nat) (m17 : Nat) (m18 : Nat) (m19 : Nat) (m20 : Nat) (m21 : Nat) (m22 : Nat) (m23 : Nat) (v24 : Int32) (m25 : Nat) (m26 : Nat) (m27 : Nat) (m28 : Nat) (m29 : Nat) (v30 : Int32) (m31 : Nat) (m32 : Nat) (m33 : Nat) (v34 : Int32) (v35 : Int32) (v36 : Int32) (m37 : Nat) (m38 : Nat) (m39 : Nat) (m40 : Nat) (v41 : Int64) (f16 : Nat → Int32) (sz : Nat) (h_v6 : 0 ≤ v6.toInt ∧ v6.toInt ≤ 1000) (h_v24 : 0 ≤ v24.toInt ∧ v24.toInt ≤ 1023) : Met l yX12_isCart (ww yX12_isCart cX12_isCart 2 (some .boolean)) ({ frames := 1, cells := 0, slots := 0, locals := 25 }) (Pre0 D k [(mo, .inr (12, [.int v0, .ref m1, .ref m2, .ref m3, .ref m4, .ref m5, .int v6, .int v7, .int v8, .int v9, .int v10, .long v11, .int v12, .int v13, .int v14, .int v15, .ref m16, .ref m17, .ref m18, .ref m19, .ref m20, .ref m21, .ref m22, .ref m23, .int v24, .ref m25, .ref m26, .ref m27, .ref m28, .ref m29, .int v30, .ref m31, .ref m32, .ref m33, .int v34, .int v35, .int v36, .ref m37, .ref m38, .ref m39, .ref m40, .long v41])), (m16, .inl (k 0, 5, .inl f16))] sz [.ref mo, .int p0]) (va_Qi (fun (r : Int32) (_ : Unit) => (0 ≤ r.toInt ∧ r.toInt ≤ 1) ∧ ((r.toInt = 1 ∧ 1 ≤ p0.toInt ∧ p0.toInt ≤ 99) ∨ r.toInt = 0)) (fun (_ : Unit) tZ => Bw D k (va_A [(mo, .inr (12, [.int v0, .ref m1, .ref m2, .ref m3, .ref m4, .ref m5, .int v6, .int v7, .int v8, .int v9, .int v10, .long v11, .int v12, .int v13, .int v14, .int v15, .ref m16, .ref m17, .ref m18, .ref m19, .ref m20, .ref m21, .ref m22, .ref m23, .int v24, .ref m25, .ref m26, .ref m27, .ref m28, .ref m29, .int v30, .ref m31, .ref m32, .ref m33, .int v34, .int v35, .int v36, .ref m37, .ref m38, .ref m39, .ref m40, .long v41])), (m16, .inl (k 0, 5, .inl f16))] sz) [(mo, .inr (12, [.int v0, .ref m1, .ref m2, .ref m3, .ref m4, .ref m5, .int v6, .int v7, .int v8, .int v9, .int v10, .long v11, .int v12, .int v13, .int v14, .int v15, .ref m16, .ref m17, .ref m18, .ref m19, .ref m20, .ref m21, .ref m22, .ref m23, .int v24, .ref m25, .ref m26, .ref m27, .ref m28, .ref m29, .int v30, .ref m31, .ref m32, .ref m33, .int v34, .int v35, .int v36, .ref m37, .ref m38, .ref m39, .ref m40, .long v41])), (m16, .inl (k 0, 5, .inl f16))] tZ) (va_A [(mo, .inr (12, [.int v0, .ref m1, .ref m2, .ref m3, .ref m4, .ref m5, .int v6, .int v7, .int v8, .int v9, .int v10, .long v11, .int v12, .int v13, .int v14, .int v15, .ref m16, .ref m17, .ref m18, .ref m19, .ref m20, .ref m21, .ref m22, .ref m23, .int v24, .ref m25, .ref m26, .ref m27, .ref m28, .ref m29, .int v30, .ref m31, .ref m32, .ref m33, .int v34, .int v35, .int v36, .ref m37, .ref m38, .ref m39, .ref m40, .long v41])), (m16, .inl (k 0, 5, .inl f16))] sz)) 0 0 (va_A [(mo, .inr (12, [.int v0, .ref m1, .ref m2, .ref m3, .ref m4, .ref m5, .int v6, .int v7, .int v8, .int v9, .int v10, .long v11, .int v12, .int v13, .int v14, .int v15, .ref m16, .ref m17, .ref m18, .ref m19, .ref m20, .ref m21, .ref m22, .ref m23, .int v24, .ref m25, .ref m26, .ref m27, .ref m28, .ref m29, .int v30, .ref m31, .ref m32, .ref m33, .int v34, .int v35, .int v36, .ref m37, .ref m38, .ref m39, .ref m40, .long v41])), (m16, .inl (k 0, 5, .inl f16))] sz) := by
  refine Met.ofW (cc := cX12_isCart) (maxL := 2) (ret := (some .boolean)) (by decide +kernel) rfl ?_
  intro p e s m args below meth c s₁ B hml hv
  obtain ⟨rfl, hsz, hP, hK, hD0, hN⟩ := hv
  have hx := B.exec
  have hb := B.bytes
  have hr := B.returns
  have hts : ∀ w ∈ TT, w.before _ s = true := fun w h => atoms_spec (ws := ww yX12_isCart cX12_isCart 2 (some .boolean)) B.pre w (List.mem_cons_of_mem _ h)
  have hown : s.vm.findClass RX12 = some m.cls := findClass_of_methodNamed B.named
  have hlocks := B.notSynchronized
  subst hsz
  have hD := hD0.self (sz := s.heap.size)
  generalize hAe : va_A [(mo, .inr (12, [.int v0, .ref m1, .ref m2, .ref m3, .ref m4, .ref m5, .int v6, .int v7, .int v8, .int v9, .int v10, .long v11, .int v12, .int v13, .int v14, .int v15, .ref m16, .ref m17, .ref m18, .ref m19, .ref m20, .ref m21, .ref m22, .ref m23, .int v24, .ref m25, .ref m26, .ref m27, .ref m28, .ref m29, .int v30, .ref m31, .ref m32, .ref m33, .int v34, .int v35, .int v36, .ref m37, .ref m38, .ref m39, .ref m40, .long v41])), (m16, .inl (k 0, 5, .inl f16))] s.heap.size = A at hD ⊢
  have hA : ∀ q : Nat, s.heap.size ≤ q → A q := fun q h => by rw [← hAe]; exact Or.inr h
  have hS : va_S A s.heap s.heap [] := va_S.rf
  have hl := lv_entry ([.ref mo, .int p0]) (n := 2) (Nat.le_of_ble_eq_true rfl)
  rw [lg_entry_eq]
  generalize (lg_sl ([.ref mo, .int p0]) ++ List.replicate (2 - (lg_sl ([.ref mo, .int p0])).length) Slot.unset).toArray = ls at hl ⊢
  have hl : lv_has ls 2 [(0, .ref mo), (1, .int p0)] := hl
  refine lv_aload_n hx hb dX12_isCart_0 rfl (lv_at hl 0 rfl) ?_
  obtain ⟨hPc, hDc, hFc⟩ := sub3 hP hD hS hA (ws' := [(mo, .inr (12, [.int v0, .ref m1, .ref m2, .ref m3, .ref m4, .ref m5, .int v6, .int v7, .int v8, .int v9, .int v10, .long v11, .int v12, .int v13, .int v14, .int v15, .ref m16, .ref m17, .ref m18, .ref m19, .ref m20, .ref m21, .ref m22, .ref m23, .int v24, .ref m25, .ref m26, .ref m27, .ref m28, .ref m29, .int v30, .ref m31, .ref m32, .ref m33, .int v34, .int v35, .int v36, .ref m37, .ref m38, .ref m39, .ref m40, .long v41])), (m16, .inl (k 0, 5, .inl f16))]) [0, 1] (by decide +kernel) rfl
  refine va_calli (va_runV (C := RX12) (As := []) (rest := []) ⟨hx, hb, hml, hown, hts⟩ (c_X12_isTown l D k mo v0 m1 m2 m3 m4 m5 v6 v7 v8 v9 v10 v11 v12 v13 v14 v15 m16 m17 m18 m19 m20 m21 m22 m23 v24 m25 m26 m27 m28 m29 v30 m31 m32 m33 v34 v35 v36 m37 m38 m39 m40 v41 f16 s.heap.size (show 0 ≤ v6.toInt ∧ v6.toInt ≤ 1000 from by omega) (show 0 ≤ v24.toInt ∧ v24.toInt ≤ 1023 from by omega)) (cwV 0 hts (gV tw_7_181 tw_7_183 tw_p_71 tw_1_13 tw_7_184) rfl rfl rfl hdV_X12_isTown ⟨Nat.le_of_ble_eq_true rfl, Nat.le_of_ble_eq_true rfl⟩) (cz_V hK hPc hDc hN (ci := 12) (q0 := 0) rfl rfl []) rfl rfl hl.1 rfl (lv_room (Nat.le_of_ble_eq_true rfl)) dX12_isCart_1 ⟨Nat.le_of_ble_eq_true rfl, Nat.le_of_ble_eq_true rfl⟩) hS (fun q _ h => hFc q h) hFc (fun r_1 uZ tZ H1 locs ht hvm hw hB hz1 hk1 hS => ?_)
  obtain ⟨hP1, hK1, hD1⟩ := hB
  rw [ht] at hP1
  obtain ⟨hP, hD⟩ := va_join (wr := []) (w1 := [(mo, .inr (12, [.int v0, .ref m1, .ref m2, .ref m3, .ref m4, .ref m5, .int v6, .int v7, .int v8, .int v9, .int v10, .long v11, .int v12, .int v13, .int v14, .int v15, .ref m16, .ref m17, .ref m18, .ref m19, .ref m20, .ref m21, .ref m22, .ref m23, .int v24, .ref m25, .ref m26, .ref m27, .ref m28, .ref m29, .int v30, .ref m31, .ref m32, .ref m33, .int v34, .int v35, .int v36, .ref m37, .ref m38, .ref m39, .ref m40, .long v41])), (m16, .inl (k 0, 5, .inl f16))]) hP hD [0, 1] [] rfl rfl (by decide +kernel) (by decide +kernel) hk1 hFc hP1 hD1
  clear hK1 hP1 hD1 hPc hDc hFc
  clear hk1 hz1 ht hvm
  have hP : va_P D vwCl [(mo, .inr (12, [.int v0, .ref m1, .ref m2, .ref m3, .ref m4, .ref m5, .int v6, .int v7, .int v8, .int v9, .int v10, .long v11, .int v12, .int v13, .int v14, .int v15, .ref m16, .ref m17, .ref m18, .ref m19, .ref m20, .ref m21, .ref m22, .ref m23, .int v24, .ref m25, .ref m26, .ref m27, .ref m28, .ref m29, .int v30, .ref m31, .ref m32, .ref m33, .int v34, .int v35, .int v36, .ref m37, .ref m38, .ref m39, .ref m40, .long v41])), (m16, .inl (k 0, 5, .inl f16))] H1 := hP
  have hD : va_D A [(mo, .inr (12, [.int v0, .ref m1, .ref m2, .ref m3, .ref m4, .ref m5, .int v6, .int v7, .int v8, .int v9, .int v10, .long v11, .int v12, .int v13, .int v14, .int v15, .ref m16, .ref m17, .ref m18, .ref m19, .ref m20, .ref m21, .ref m22, .ref m23, .int v24, .ref m25, .ref m26, .ref m27, .ref m28, .ref m29, .int v30, .ref m31, .ref m32, .ref m33, .int v34, .int v35, .int v36, .ref m37, .ref m38, .ref m39, .ref m40, .long v41])), (m16, .inl (k 0, 5, .inl f16))] := hD
  generalize H1 = H at hP hS ⊢
  have hw_2 : (0 ≤ r_1.toInt ∧ r_1.toInt ≤ 1) := hw
  have hw_3 := hw_2
  clear hw
  refine lv_if_eq (tgt := 23) hx hb dX12_isCart_4 (by decide) (fun h_4 => ?_) (fun h_4 => ?_)
  · skip
    have zh_4 : r_1.toInt = 0 := z_eq h_4
    refine lv_iconst (v := 0) hx hb dX12_isCart_23 (by decide) ?_
    obtain ⟨hP9, hD9⟩ := sub2 hP hD (ws' := [(mo, .inr (12, [.int v0, .ref m1, .ref m2, .ref m3, .ref m4, .ref m5, .int v6, .int v7, .int v8, .int v9, .int v10, .long v11, .int v12, .int v13, .int v14, .int v15, .ref m16, .ref m17, .ref m18, .ref m19, .ref m20, .ref m21, .ref m22, .ref m23, .int v24, .ref m25, .ref m26, .ref m27, .ref m28, .ref m29, .int v30, .ref m31, .ref m32, .ref m33, .int v34, .int v35, .int v36, .ref m37, .ref m38, .ref m39, .ref m40, .long v41])), (m16, .inl (k 0, 5, .inl f16))]) [0, 1] (by decide +kernel) rfl
    exact W.zret (v := 0) hx hb hr (by decide) (fun tZ ht hW => ⟨⟨0, (), rfl, ⟨(show 0 ≤ 0 ∧ 0 ≤ 1 from by omega), (show (0 = 1 ∧ 1 ≤ p0.toInt ∧ p0.toInt ≤ 99) ∨ 0 = 0 from by omega)⟩, by rw [ht]; exact hP9, va_K.moved hW.alike hK, hD9⟩, hS.F ht⟩) hS.2.2 dX12_isCart_24
  · skip
    have zh_4 : ¬ r_1.toInt = 0 := z_ne h_4
    refine lv_iload_n hx hb dX12_isCart_7 rfl (lv_at hl 1 rfl) ?_
    refine lv_i2l (v := p0.toInt64) hx hb dX12_isCart_8 rfl ?_
    refine lv_lconst (v := 1) hx hb dX12_isCart_9 (by decide) ?_
    refine lv_ldc2 (v := 99) hx hb hown (hts _ tw_8_141) dX12_isCart_10 ?_
    obtain ⟨hPc, hDc, hFc⟩ := sub3 hP hD hS hA (ws' := []) [] (by decide +kernel) rfl
    refine va_calli (va_runS (As := [.long p0.toInt64, .long 1, .long 99]) (rest := []) ⟨hx, hb, hml, hown, hts⟩ (c_X12_in l D k p0.toInt64 1 99 H.size) (va_cwS 3 hts (gS tw_6_188 tw_6_189 tw_1_13 tw_6_190) rfl rfl rfl hdS_X12_in ⟨Nat.le_of_ble_eq_true rfl, Nat.le_of_ble_eq_true rfl⟩) (cz_S hK hPc hDc hN [.long p0.toInt64, .long 1, .long 99]) rfl rfl hl.1 rfl (lv_room (Nat.le_of_ble_eq_true rfl)) dX12_isCart_13 ⟨Nat.le_of_ble_eq_true rfl, Nat.le_of_ble_eq_true rfl⟩) hS (fun q _ h => hFc q h) hFc (fun r_5 uZ tZ H1 locs ht hvm hw hB hz1 hk1 hS => ?_)
    obtain ⟨hP1, hK1, hD1⟩ := hB
    rw [ht] at hP1
    obtain ⟨hP, hD⟩ := va_join (wr := [(mo, .inr (12, [.int v0, .ref m1, .ref m2, .ref m3, .ref m4, .ref m5, .int v6, .int v7, .int v8, .int v9, .int v10, .long v11, .int v12, .int v13, .int v14, .int v15, .ref m16, .ref m17, .ref m18, .ref m19, .ref m20, .ref m21, .ref m22, .ref m23, .int v24, .ref m25, .ref m26, .ref m27, .ref m28, .ref m29, .int v30, .ref m31, .ref m32, .ref m33, .int v34, .int v35, .int v36, .ref m37, .ref m38, .ref m39, .ref m40, .long v41])), (m16, .inl (k 0, 5, .inl f16))]) (w1 := []) hP hD [] [0, 1] rfl rfl (by decide +kernel) (by decide +kernel) hk1 hFc hP1 hD1
    clear hK1 hP1 hD1 hPc hDc hFc
    clear hk1 hz1 ht hvm
    have hP : va_P D vwCl [(mo, .inr (12, [.int v0, .ref m1, .ref m2, .ref m3, .ref m4, .ref m5, .int v6, .int v7, .int v8, .int v9, .int v10, .long v11, .int v12, .int v13, .int v14, .int v15, .ref m16, .ref m17, .ref m18, .ref m19, .ref m20, .ref m21, .ref m22, .ref m23, .int v24, .ref m25, .ref m26, .ref m27, .ref m28, .ref m29, .int v30, .ref m31, .ref m32, .ref m33, .int v34, .int v35, .int v36, .ref m37, .ref m38, .ref m39, .ref m40, .long v41])), (m16, .inl (k 0, 5, .inl f16))] H1 := hP
    have hD : va_D A [(mo, .inr (12, [.int v0, .ref m1, .ref m2, .ref m3, .ref m4, .ref m5, .int v6, .int v7, .int v8, .int v9, .int v10, .long v11, .int v12, .int v13, .int v14, .int v15, .ref m16, .ref m17, .ref m18, .ref m19, .ref m20, .ref m21, .ref m22, .ref m23, .int v24, .ref m25, .ref m26, .ref m27, .ref m28, .ref m29, .int v30, .ref m31, .ref m32, .ref m33, .int v34, .int v35, .int v36, .ref m37, .ref m38, .ref m39, .ref m40, .long v41])), (m16, .inl (k 0, 5, .inl f16))] := hD
    generalize H1 = H at hP hS ⊢
    have hw_6 : (0 ≤ r_5.toInt ∧ r_5.toInt ≤ 1) ∧ ((r_5.toInt = 1 ∧ 1 ≤ p0.toInt64.toInt ∧ p0.toInt64.toInt ≤ 99) ∨ (r_5.toInt = 0 ∧ (p0.toInt64.toInt < 1 ∨ 99 < p0.toInt64.toInt))) := hw
    obtain ⟨hw_7, hw_8⟩ := hw_6
    clear hw
    simp only [Int32.toInt_toInt64] at hw_7 hw_8
    refine lv_if_eq (tgt := 23) hx hb dX12_isCart_16 (by decide) (fun h_9 => ?_) (fun h_9 => ?_)
    · skip
      have zh_9 : r_5.toInt = 0 := z_eq h_9
      refine lv_iconst (v := 0) hx hb dX12_isCart_23 (by decide) ?_
      obtain ⟨hP9, hD9⟩ := sub2 hP hD (ws' := [(mo, .inr (12, [.int v0, .ref m1, .ref m2, .ref m3, .ref m4, .ref m5, .int v6, .int v7, .int v8, .int v9, .int v10, .long v11, .int v12, .int v13, .int v14, .int v15, .ref m16, .ref m17, .ref m18, .ref m19, .ref m20, .ref m21, .ref m22, .ref m23, .int v24, .ref m25, .ref m26, .ref m27, .ref m28, .ref m29, .int v30, .ref m31, .ref m32, .ref m33, .int v34, .int v35, .int v36, .ref m37, .ref m38, .ref m39, .ref m40, .long v41])), (m16, .inl (k 0, 5, .inl f16))]) [0, 1] (by decide +kernel) rfl
      exact W.zret (v := 0) hx hb hr (by decide) (fun tZ ht hW => ⟨⟨0, (), rfl, ⟨(show 0 ≤ 0 ∧ 0 ≤ 1 from by omega), (show (0 = 1 ∧ 1 ≤ p0.toInt ∧ p0.toInt ≤ 99) ∨ 0 = 0 from by omega)⟩, by rw [ht]; exact hP9, va_K.moved hW.alike hK, hD9⟩, hS.F ht⟩) hS.2.2 dX12_isCart_24
    · skip
      have zh_9 : ¬ r_5.toInt = 0 := z_ne h_9
      refine lv_iconst (v := 1) hx hb dX12_isCart_19 (by decide) ?_
      refine lv_goto (tgt := 24) hx hb dX12_isCart_20 (by decide) ?_
      obtain ⟨hP9, hD9⟩ := sub2 hP hD (ws' := [(mo, .inr (12, [.int v0, .ref m1, .ref m2, .ref m3, .ref m4, .ref m5, .int v6, .int v7, .int v8, .int v9, .int v10, .long v11, .int v12, .int v13, .int v14, .int v15, .ref m16, .ref m17, .ref m18, .ref m19, .ref m20, .ref m21, .ref m22, .ref m23, .int v24, .ref m25, .ref m26, .ref m27, .ref m28, .ref m29, .int v30, .ref m31, .ref m32, .ref m33, .int v34, .int v35, .int v36, .ref m37, .ref m38, .ref m39, .ref m40, .long v41])), (m16, .inl (k 0, 5, .inl f16))]) [0, 1] (by decide +kernel) rfl
      exact W.zret (v := 1) hx hb hr (by decide) (fun tZ ht hW => ⟨⟨1, (), rfl, ⟨(show 0 ≤ 1 ∧ 1 ≤ 1 from by omega), (show (1 = 1 ∧ 1 ≤ p0.toInt ∧ p0.toInt ≤ 99) ∨ 1 = 0 from by omega)⟩, by rw [ht]; exact hP9, va_K.moved hW.alike hK, hD9⟩, hS.F ht⟩) hS.2.2 dX12_isCart_24
set_option maxHeartbeats 4000000 in
set_option maxRecDepth 100000 in
theorem c_X12_carts (l : Launch) (D : va_G) (k : Nat → ClassId) (mo : Nat) (p0 : Int32) (v0 : Int32) (m1 : Nat) (m2 : Nat) (m3 : Nat) (m4 : Nat) (m5 : Nat) (v6 : Int32) (v7 : Int32) (v8 : Int32) (v9 : Int32) (v10 : Int32) (v11 : Int64) (v12 : Int32) (v13 : Int32) (v14 : Int32) (v15 : Int32) (m16 : Nat) (m17 : Nat) (m18 : Nat) (m19 : Nat) (m20 : Nat) (m21 : Nat) (m22 : Nat) (m23 : Nat) (v24 : Int32) (m25 : Nat) (m26 : Nat) (m27 : Nat) (m28 : Nat) (m29 : Nat) (v30 : Int32) (m31 : Nat) (m32 : Nat) (m33 : Nat) (v34 : Int32) (v35 : Int32) (v36 : Int32) (m37 : Nat) (m38 : Nat) (m39 : Nat) (m40 : Nat) (v41 : Int64) (f16 : Nat → Int32) (f17 : Nat → Int32) (f20 : Nat → Int32) (f37 : Nat → Int32) (f38 : Nat → Int32) (sz : Nat) (h_v6 : 0 ≤ v6.toInt ∧ v6.toInt ≤ 1000) (h_v24 : 0 ≤ v24.toInt ∧ v24.toInt ≤ 1023) (hp_f17_0 : PR 30 6 0 0 8 f17) (hp_f17_1 : PR 30 6 1 0 10 f17) (hp_f17_2 : PR 30 6 2 0 4 f17) (hp_f17_3 : PR 30 6 3 0 6 f17) (hp_f17_4 : PR 30 6 4 0 2 f17) (hp_f17_5 : PR 30 6 5 0 40 f17) (hp_f20_0 : PR 120 4 0 0 7 f20) : Met l yX12_carts (ww yX12_carts cX12_carts 2 (some .int)) ({ frames := 8, cells := 0, slots := 0, locals := 191 }) (Pre0 D k [(mo, .inr (12, [.int v0, .ref m1, .ref m2, .ref m3, .ref m4, .ref m5, .int v6, .int v7, .int v8, .int v9, .int v10, .long v11, .int v12, .int v13, .int v14, .int v15, .ref m16, .ref m17, .ref m18, .ref m19, .ref m20, .ref m21, .ref m22, .ref m23, .int v24, .ref m25, .ref m26, .ref m27, .ref m28, .ref m29, .int v30, .ref m31, .ref m32, .ref m33, .int v34, .int v35, .int v36, .ref m37, .ref m38, .ref m39, .ref m40, .long v41])), (m16, .inl (k 0, 5, .inl f16)), (m17, .inl (k 0, 30, .inl f17)), (m20, .inl (k 0, 120, .inl f20)), (m37, .inl (k 0, 6, .inl f37)), (m38, .inl (k 0, 6, .inl f38))] sz [.ref mo, .int p0]) (va_Qi (fun (r : Int32) (u : Int32 × (Nat → Int32) × (Nat → Int32)) => match u with | (v0z, f37z, f38z) => ((-2) ≤ r.toInt ∧ r.toInt ≤ 6) ∧ (0 ≤ v0z.toInt ∧ v0z.toInt ≤ 0)) (fun (u : Int32 × (Nat → Int32) × (Nat → Int32)) tZ => match u with | (v0z, f37z, f38z) => Bw D k (va_A [(mo, .inr (12, [.int v0, .ref m1, .ref m2, .ref m3, .ref m4, .ref m5, .int v6, .int v7, .int v8, .int v9, .int v10, .long v11, .int v12, .int v13, .int v14, .int v15, .ref m16, .ref m17, .ref m18, .ref m19, .ref m20, .ref m21, .ref m22, .ref m23, .int v24, .ref m25, .ref m26, .ref m27, .ref m28, .ref m29, .int v30, .ref m31, .ref m32, .ref m33, .int v34, .int v35, .int v36, .ref m37, .ref m38, .ref m39, .ref m40, .long v41])), (m16, .inl (k 0, 5, .inl f16)), (m17, .inl (k 0, 30, .inl f17)), (m20, .inl (k 0, 120, .inl f20)), (m37, .inl (k 0, 6, .inl f37)), (m38, .inl (k 0, 6, .inl f38))] sz) [(mo, .inr (12, [.int v0z, .ref m1, .ref m2, .ref m3, .ref m4, .ref m5, .int v6, .int v7, .int v8, .int v9, .int v10, .long v11, .int v12, .int v13, .int v14, .int v15, .ref m16, .ref m17, .ref m18, .ref m19, .ref m20, .ref m21, .ref m22, .ref m23, .int v24, .ref m25, .ref m26, .ref m27, .ref m28, .ref m29, .int v30, .ref m31, .ref m32, .ref m33, .int v34, .int v35, .int v36, .ref m37, .ref m38, .ref m39, .ref m40, .long v41])), (m16, .inl (k 0, 5, .inl f16)), (m17, .inl (k 0, 30, .inl f17)), (m20, .inl (k 0, 120, .inl f20)), (m37, .inl (k 0, 6, .inl f37z)), (m38, .inl (k 0, 6, .inl f38z))] tZ) (va_A [(mo, .inr (12, [.int v0, .ref m1, .ref m2, .ref m3, .ref m4, .ref m5, .int v6, .int v7, .int v8, .int v9, .int v10, .long v11, .int v12, .int v13, .int v14, .int v15, .ref m16, .ref m17, .ref m18, .ref m19, .ref m20, .ref m21, .ref m22, .ref m23, .int v24, .ref m25, .ref m26, .ref m27, .ref m28, .ref m29, .int v30, .ref m31, .ref m32, .ref m33, .int v34, .int v35, .int v36, .ref m37, .ref m38, .ref m39, .ref m40, .long v41])), (m16, .inl (k 0, 5, .inl f16)), (m17, .inl (k 0, 30, .inl f17)), (m20, .inl (k 0, 120, .inl f20)), (m37, .inl (k 0, 6, .inl f37)), (m38, .inl (k 0, 6, .inl f38))] sz)) 0 0 (va_A [(mo, .inr (12, [.int v0, .ref m1, .ref m2, .ref m3, .ref m4, .ref m5, .int v6, .int v7, .int v8, .int v9, .int v10, .long v11, .int v12, .int v13, .int v14, .int v15, .ref m16, .ref m17, .ref m18, .ref m19, .ref m20, .ref m21, .ref m22, .ref m23, .int v24, .ref m25, .ref m26, .ref m27, .ref m28, .ref m29, .int v30, .ref m31, .ref m32, .ref m33, .int v34, .int v35, .int v36, .ref m37, .ref m38, .ref m39, .ref m40, .long v41])), (m16, .inl (k 0, 5, .inl f16)), (m17, .inl (k 0, 30, .inl f17)), (m20, .inl (k 0, 120, .inl f20)), (m37, .inl (k 0, 6, .inl f37)), (m38, .inl (k 0, 6, .inl f38))] sz) := by
  refine Met.ofW (cc := cX12_carts) (maxL := 2) (ret := (some .int)) (by decide +kernel) rfl ?_
  intro p e s m args below meth c s₁ B hml hv
  obtain ⟨rfl, hsz, hP, hK, hD0, hN⟩ := hv
  have hx := B.exec
  have hb := B.bytes
  have hr := B.returns
  have hts : ∀ w ∈ TT, w.before _ s = true := fun w h => atoms_spec (ws := ww yX12_carts cX12_carts 2 (some .int)) B.pre w (List.mem_cons_of_mem _ h)
  have hown : s.vm.findClass RX12 = some m.cls := findClass_of_methodNamed B.named
  have hlocks := B.notSynchronized
  subst hsz
  have hD := hD0.self (sz := s.heap.size)
  generalize hAe : va_A [(mo, .inr (12, [.int v0, .ref m1, .ref m2, .ref m3, .ref m4, .ref m5, .int v6, .int v7, .int v8, .int v9, .int v10, .long v11, .int v12, .int v13, .int v14, .int v15, .ref m16, .ref m17, .ref m18, .ref m19, .ref m20, .ref m21, .ref m22, .ref m23, .int v24, .ref m25, .ref m26, .ref m27, .ref m28, .ref m29, .int v30, .ref m31, .ref m32, .ref m33, .int v34, .int v35, .int v36, .ref m37, .ref m38, .ref m39, .ref m40, .long v41])), (m16, .inl (k 0, 5, .inl f16)), (m17, .inl (k 0, 30, .inl f17)), (m20, .inl (k 0, 120, .inl f20)), (m37, .inl (k 0, 6, .inl f37)), (m38, .inl (k 0, 6, .inl f38))] s.heap.size = A at hD ⊢
  have hA : ∀ q : Nat, s.heap.size ≤ q → A q := fun q h => by rw [← hAe]; exact Or.inr h
  have hS : va_S A s.heap s.heap [] := va_S.rf
  have hl := lv_entry ([.ref mo, .int p0]) (n := 2) (Nat.le_of_ble_eq_true rfl)
  rw [lg_entry_eq]
  generalize (lg_sl ([.ref mo, .int p0]) ++ List.replicate (2 - (lg_sl ([.ref mo, .int p0])).length) Slot.unset).toArray = ls at hl ⊢
  have hl : lv_has ls 2 [(0, .ref mo), (1, .int p0)] := hl
  refine lv_aload_n hx hb dX12_carts_0 rfl (lv_at hl 0 rfl) ?_
  refine lv_iconst (v := 0) hx hb dX12_carts_1 (by decide) ?_
  refine va_put (D := D) (ci := 12) (v := .int 0) (ty := tyX12 0) (C := RX12) (T := TX12) (N := 42) hx hb hts iT_X12 tyX12 tyX12_ok nmX12 hown hK hP hD hS 0 rfl rfl 0 (by decide) (hts _ tw_6_53) (fun _ h9 => h9) rfl (tyX12_ok 0 (by decide)) rfl rfl (Nat.le_of_ble_eq_true rfl) dX12_carts_2 (fun H locs hP hD hS => ?_)
  have hP : va_P D vwCl [(mo, .inr (12, [.int 0, .ref m1, .ref m2, .ref m3, .ref m4, .ref m5, .int v6, .int v7, .int v8, .int v9, .int v10, .long v11, .int v12, .int v13, .int v14, .int v15, .ref m16, .ref m17, .ref m18, .ref m19, .ref m20, .ref m21, .ref m22, .ref m23, .int v24, .ref m25, .ref m26, .ref m27, .ref m28, .ref m29, .int v30, .ref m31, .ref m32, .ref m33, .int v34, .int v35, .int v36, .ref m37, .ref m38, .ref m39, .ref m40, .long v41])), (m16, .inl (k 0, 5, .inl f16)), (m17, .inl (k 0, 30, .inl f17)), (m20, .inl (k 0, 120, .inl f20)), (m37, .inl (k 0, 6, .inl f37)), (m38, .inl (k 0, 6, .inl f38))] H := hP
  have hD : va_D A [(mo, .inr (12, [.int 0, .ref m1, .ref m2, .ref m3, .ref m4, .ref m5, .int v6, .int v7, .int v8, .int v9, .int v10, .long v11, .int v12, .int v13, .int v14, .int v15, .ref m16, .ref m17, .ref m18, .ref m19, .ref m20, .ref m21, .ref m22, .ref m23, .int v24, .ref m25, .ref m26, .ref m27, .ref m28, .ref m29, .int v30, .ref m31, .ref m32, .ref m33, .int v34, .int v35, .int v36, .ref m37, .ref m38, .ref m39, .ref m40, .long v41])), (m16, .inl (k 0, 5, .inl f16)), (m17, .inl (k 0, 30, .inl f17)), (m20, .inl (k 0, 120, .inl f20)), (m37, .inl (k 0, 6, .inl f37)), (m38, .inl (k 0, 6, .inl f38))] := hD
  refine lv_aload_n hx hb dX12_carts_5 rfl (lv_at hl 0 rfl) ?_
  refine lv_iload_n hx hb dX12_carts_6 rfl (lv_at hl 1 rfl) ?_
  obtain ⟨hPc, hDc, hFc⟩ := sub3 hP hD hS hA (ws' := [(mo, .inr (12, [.int 0, .ref m1, .ref m2, .ref m3, .ref m4, .ref m5, .int v6, .int v7, .int v8, .int v9, .int v10, .long v11, .int v12, .int v13, .int v14, .int v15, .ref m16, .ref m17, .ref m18, .ref m19, .ref m20, .ref m21, .ref m22, .ref m23, .int v24, .ref m25, .ref m26, .ref m27, .ref m28, .ref m29, .int v30, .ref m31, .ref m32, .ref m33, .int v34, .int v35, .int v36, .ref m37, .ref m38, .ref m39, .ref m40, .long v41])), (m16, .inl (k 0, 5, .inl f16))]) [0, 1] (by decide +kernel) rfl
  refine va_calli (va_runV (C := RX12) (As := [.int p0]) (rest := []) ⟨hx, hb, hml, hown, hts⟩ (c_X12_isCart l D k mo p0 0 m1 m2 m3 m4 m5 v6 v7 v8 v9 v10 v11 v12 v13 v14 v15 m16 m17 m18 m19 m20 m21 m22 m23 v24 m25 m26 m27 m28 m29 v30 m31 m32 m33 v34 v35 v36 m37 m38 m39 m40 v41 f16 H.size (show 0 ≤ v6.toInt ∧ v6.toInt ≤ 1000 from by omega) (show 0 ≤ v24.toInt ∧ v24.toInt ≤ 1023 from by omega)) (cwV 1 hts (gV tw_8_137 tw_8_139 tw_p_88 tw_1_13 tw_8_140) rfl rfl rfl hdV_X12_isCart ⟨Nat.le_of_ble_eq_true rfl, Nat.le_of_ble_eq_true rfl⟩) (cz_V hK hPc hDc hN (ci := 12) (q0 := 0) rfl rfl [.int p0]) rfl rfl hl.1 rfl (lv_room (Nat.le_of_ble_eq_true rfl)) dX12_carts_7 ⟨Nat.le_of_ble_eq_true rfl, Nat.le_of_ble_eq_true rfl⟩) hS (fun q _ h => hFc q h) hFc (fun r_1 uZ tZ H1 locs ht hvm hw hB hz1 hk1 hS => ?_)
  obtain ⟨hP1, hK1, hD1⟩ := hB
  rw [ht] at hP1
  obtain ⟨hP, hD⟩ := va_join (wr := [(m17, .inl (k 0, 30, .inl f17)), (m20, .inl (k 0, 120, .inl f20)), (m37, .inl (k 0, 6, .inl f37)), (m38, .inl (k 0, 6, .inl f38))]) (w1 := [(mo, .inr (12, [.int 0, .ref m1, .ref m2, .ref m3, .ref m4, .ref m5, .int v6, .int v7, .int v8, .int v9, .int v10, .long v11, .int v12, .int v13, .int v14, .int v15, .ref m16, .ref m17, .ref m18, .ref m19, .ref m20, .ref m21, .ref m22, .ref m23, .int v24, .ref m25, .ref m26, .ref m27, .ref m28, .ref m29, .int v30, .ref m31, .ref m32, .ref m33, .int v34, .int v35, .int v36, .ref m37, .ref m38, .ref m39, .ref m40, .long v41])), (m16, .inl (k 0, 5, .inl f16))]) hP hD [0, 1] [2, 3, 4, 5] rfl rfl (by decide +kernel) (by decide +kernel) hk1 hFc hP1 hD1
  clear hK1 hP1 hD1 hPc hDc hFc
  clear hk1 hz1 ht hvm
  have hP : va_P D vwCl [(m17, .inl (k 0, 30, .inl f17)), (m20, .inl (k 0, 120, .inl f20)), (m37, .inl (k 0, 6, .inl f37)), (m38, .inl (k 0, 6, .inl f38)), (mo, .inr (12, [.int 0, .ref m1, .ref m2, .ref m3, .ref m4, .ref m5, .int v6, .int v7, .int v8, .int v9, .int v10, .long v11, .int v12, .int v13, .int v14, .int v15, .ref m16, .ref m17, .ref m18, .ref m19, .ref m20, .ref m21, .ref m22, .ref m23, .int v24, .ref m25, .ref m26, .ref m27, .ref m28, .ref m29, .int v30, .ref m31, .ref m32, .ref m33, .int v34, .int v35, .int v36, .ref m37, .ref m38, .ref m39, .ref m40, .long v41])), (m16, .inl (k 0, 5, .inl f16))] H1 := hP
  have hD : va_D A [(m17, .inl (k 0, 30, .inl f17)), (m20, .inl (k 0, 120, .inl f20)), (m37, .inl (k 0, 6, .inl f37)), (m38, .inl (k 0, 6, .inl f38)), (mo, .inr (12, [.int 0, .ref m1, .ref m2, .ref m3, .ref m4, .ref m5, .int v6, .int v7, .int v8, .int v9, .int v10, .long v11, .int v12, .int v13, .int v14, .int v15, .ref m16, .ref m17, .ref m18, .ref m19, .ref m20, .ref m21, .ref m22, .ref m23, .int v24, .ref m25, .ref m26, .ref m27, .ref m28, .ref m29, .int v30, .ref m31, .ref m32, .ref m33, .int v34, .int v35, .int v36, .ref m37, .ref m38, .ref m39, .ref m40, .long v41])), (m16, .inl (k 0, 5, .inl f16))] := hD
  generalize H1 = H at hP hS ⊢
  have hw_2 : (0 ≤ r_1.toInt ∧ r_1.toInt ≤ 1) ∧ ((r_1.toInt = 1 ∧ 1 ≤ p0.toInt ∧ p0.toInt ≤ 99) ∨ r_1.toInt = 0) := hw
  obtain ⟨hw_3, hw_4⟩ := hw_2
  clear hw
  refine lv_if_eq (tgt := 21) hx hb dX12_carts_10 (by decide) (fun h_5 => ?_) (fun h_5 => ?_)
  · skip
    have zh_5 : r_1.toInt = 0 := z_eq h_5
    refine lv_bipush (v := (-2)) hx hb dX12_carts_21 (by decide) ?_
    obtain ⟨hP9, hD9⟩ := sub2 hP hD (ws' := [(mo, .inr (12, [.int 0, .ref m1, .ref m2, .ref m3, .ref m4, .ref m5, .int v6, .int v7, .int v8, .int v9, .int v10, .long v11, .int v12, .int v13, .int v14, .int v15, .ref m16, .ref m17, .ref m18, .ref m19, .ref m20, .ref m21, .ref m22, .ref m23, .int v24, .ref m25, .ref m26, .ref m27, .ref m28, .ref m29, .int v30, .ref m31, .ref m32, .ref m33, .int v34, .int v35, .int v36, .ref m37, .ref m38, .ref m39, .ref m40, .long v41])), (m16, .inl (k 0, 5, .inl f16)), (m17, .inl (k 0, 30, .inl f17)), (m20, .inl (k 0, 120, .inl f20)), (m37, .inl (k 0, 6, .inl f37)), (m38, .inl (k 0, 6, .inl f38))]) [4, 5, 0, 1, 2, 3] (by decide +kernel) rfl
    exact W.iret (v := (-2)) hx hb hr (fun tZ ht hW => ⟨⟨(-2), (0, f37, f38), rfl, ⟨(show (-2) ≤ (-2) ∧ (-2) ≤ 6 from by omega), (show 0 ≤ 0 ∧ 0 ≤ 0 from by omega)⟩, by rw [ht]; exact hP9, va_K.moved hW.alike hK, hD9⟩, hS.F ht⟩) hS.2.2 dX12_carts_23
  · skip
    have zh_5 : ¬ r_1.toInt = 0 := z_ne h_5
    refine lv_aload_n hx hb dX12_carts_13 rfl (lv_at hl 0 rfl) ?_
    refine lv_iload_n hx hb dX12_carts_14 rfl (lv_at hl 1 rfl) ?_
    obtain ⟨hPc, hDc, hFc⟩ := sub3 hP hD hS hA (ws' := [(mo, .inr (12, [.int 0, .ref m1, .ref m2, .ref m3, .ref m4, .ref m5, .int v6, .int v7, .int v8, .int v9, .int v10, .long v11, .int v12, .int v13, .int v14, .int v15, .ref m16, .ref m17, .ref m18, .ref m19, .ref m20, .ref m21, .ref m22, .ref m23, .int v24, .ref m25, .ref m26, .ref m27, .ref m28, .ref m29, .int v30, .ref m31, .ref m32, .ref m33, .int v34, .int v35, .int v36, .ref m37, .ref m38, .ref m39, .ref m40, .long v41])), (m17, .inl (k 0, 30, .inl f17)), (m20, .inl (k 0, 120, .inl f20)), (m37, .inl (k 0, 6, .inl f37)), (m38, .inl (k 0, 6, .inl f38))]) [4, 0, 1, 2, 3] (by decide +kernel) rfl
    refine va_calli (va_runV (C := RX12) (As := [.int p0]) (rest := []) ⟨hx, hb, hml, hown, hts⟩ (c_X12_cartsOf l D k mo p0 0 m1 m2 m3 m4 m5 v6 v7 v8 v9 v10 v11 v12 v13 v14 v15 m16 m17 m18 m19 m20 m21 m22 m23 v24 m25 m26 m27 m28 m29 v30 m31 m32 m33 v34 v35 v36 m37 m38 m39 m40 v41 f17 f20 f37 f38 H.size (show 0 ≤ v6.toInt ∧ v6.toInt ≤ 1000 from by omega) (show 0 ≤ v24.toInt ∧ v24.toInt ≤ 1023 from by omega) hp_f17_0 hp_f17_1 hp_f17_2 hp_f17_3 hp_f17_4 hp_f17_5 hp_f20_0) (cwV 1 hts (gV tw_8_142 tw_8_144 tw_p_89 tw_1_13 tw_8_145) rfl rfl rfl hdV_X12_cartsOf ⟨Nat.le_of_ble_eq_true rfl, Nat.le_of_ble_eq_true rfl⟩) (cz_V hK hPc hDc hN (ci := 12) (q0 := 0) rfl rfl [.int p0]) rfl rfl hl.1 rfl (lv_room (Nat.le_of_ble_eq_true rfl)) dX12_carts_15 ⟨Nat.le_of_ble_eq_true rfl, Nat.le_of_ble_eq_true rfl⟩) hS (fun q _ h => hFc q h) hFc (fun r_6 uZ tZ H1 locs ht hvm hw hB hz1 hk1 hS => ?_)
    obtain ⟨o_7, o_8⟩ := uZ
    obtain ⟨hP1, hK1, hD1⟩ := hB
    rw [ht] at hP1
    obtain ⟨hP, hD⟩ := va_join (wr := [(m16, .inl (k 0, 5, .inl f16))]) (w1 := [(mo, .inr (12, [.int 0, .ref m1, .ref m2, .ref m3, .ref m4, .ref m5, .int v6, .int v7, .int v8, .int v9, .int v10, .long v11, .int v12, .int v13, .int v14, .int v15, .ref m16, .ref m17, .ref m18, .ref m19, .ref m20, .ref m21, .ref m22, .ref m23, .int v24, .ref m25, .ref m26, .ref m27, .ref m28, .ref m29, .int v30, .ref m31, .ref m32, .ref m33, .int v34, .int v35, .int v36, .ref m37, .ref m38, .ref m39, .ref m40, .long v41])), (m17, .inl (k 0, 30, .inl f17)), (m20, .inl (k 0, 120, .inl f20)), (m37, .inl (k 0, 6, .inl o_7)), (m38, .inl (k 0, 6, .inl o_8))]) hP hD [4, 0, 1, 2, 3] [5] rfl rfl (by decide +kernel) (by decide +kernel) hk1 hFc hP1 hD1
    clear hK1 hP1 hD1 hPc hDc hFc
    clear hk1 hz1 ht hvm
    have hP : va_P D vwCl [(m16, .inl (k 0, 5, .inl f16)), (mo, .inr (12, [.int 0, .ref m1, .ref m2, .ref m3, .ref m4, .ref m5, .int v6, .int v7, .int v8, .int v9, .int v10, .long v11, .int v12, .int v13, .int v14, .int v15, .ref m16, .ref m17, .ref m18, .ref m19, .ref m20, .ref m21, .ref m22, .ref m23, .int v24, .ref m25, .ref m26, .ref m27, .ref m28, .ref m29, .int v30, .ref m31, .ref m32, .ref m33, .int v34, .int v35, .int v36, .ref m37, .ref m38, .ref m39, .ref m40, .long v41])), (m17, .inl (k 0, 30, .inl f17)), (m20, .inl (k 0, 120, .inl f20)), (m37, .inl (k 0, 6, .inl o_7)), (m38, .inl (k 0, 6, .inl o_8))] H1 := hP
    have hD : va_D A [(m16, .inl (k 0, 5, .inl f16)), (mo, .inr (12, [.int 0, .ref m1, .ref m2, .ref m3, .ref m4, .ref m5, .int v6, .int v7, .int v8, .int v9, .int v10, .long v11, .int v12, .int v13, .int v14, .int v15, .ref m16, .ref m17, .ref m18, .ref m19, .ref m20, .ref m21, .ref m22, .ref m23, .int v24, .ref m25, .ref m26, .ref m27, .ref m28, .ref m29, .int v30, .ref m31, .ref m32, .ref m33, .int v34, .int v35, .int v36, .ref m37, .ref m38, .ref m39, .ref m40, .long v41])), (m17, .inl (k 0, 30, .inl f17)), (m20, .inl (k 0, 120, .inl f20)), (m37, .inl (k 0, 6, .inl o_7)), (m38, .inl (k 0, 6, .inl o_8))] := hD
    generalize H1 = H at hP hS ⊢
    have hw_9 : ((-1) ≤ r_6.toInt ∧ r_6.toInt ≤ 6) := hw
    have hw_10 := hw_9
    clear hw
    refine lv_goto (tgt := 23) hx hb dX12_carts_18 (by decide) ?_
    obtain ⟨hP9, hD9⟩ := sub2 hP hD (ws' := [(mo, .inr (12, [.int 0, .ref m1, .ref m2, .ref m3, .ref m4, .ref m5, .int v6, .int v7, .int v8, .int v9, .int v10, .long v11, .int v12, .int v13, .int v14, .int v15, .ref m16, .ref m17, .ref m18, .ref m19, .ref m20, .ref m21, .ref m22, .ref m23, .int v24, .ref m25, .ref m26, .ref m27, .ref m28, .ref m29, .int v30, .ref m31, .ref m32, .ref m33, .int v34, .int v35, .int v36, .ref m37, .ref m38, .ref m39, .ref m40, .long v41])), (m16, .inl (k 0, 5, .inl f16)), (m17, .inl (k 0, 30, .inl f17)), (m20, .inl (k 0, 120, .inl f20)), (m37, .inl (k 0, 6, .inl o_7)), (m38, .inl (k 0, 6, .inl o_8))]) [1, 0, 2, 3, 4, 5] (by decide +kernel) rfl
    exact W.iret (v := r_6) hx hb hr (fun tZ ht hW => ⟨⟨r_6, (0, o_7, o_8), rfl, ⟨(show (-2) ≤ r_6.toInt ∧ r_6.toInt ≤ 6 from by omega), (show 0 ≤ 0 ∧ 0 ≤ 0 from by omega)⟩, by rw [ht]; exact hP9, va_K.moved hW.alike hK, hD9⟩, hS.F ht⟩) hS.2.2 dX12_carts_23
set_option maxHeartbeats 4000000 in
set_option maxRecDepth 100000 in
theorem c_X12_cart (l : Launch) (D : va_G) (k : Nat → ClassId) (mo : Nat) (p0 : Int32) (p1 : Int32) (v0 : Int32) (m1 : Nat) (m2 : Nat) (m3 : Nat) (m4 : Nat) (m5 : Nat) (v6 : Int32) (v7 : Int32) (v8 : Int32) (v9 : Int32) (v10 : Int32) (v11 : Int64) (v12 : Int32) (v13 : Int32) (v14 : Int32) (v15 : Int32) (m16 : Nat) (m17 : Nat) (m18 : Nat) (m19 : Nat) (m20 : Nat) (m21 : Nat) (m22 : Nat) (m23 : Nat) (v24 : Int32) (m25 : Nat) (m26 : Nat) (m27 : Nat) (m28 : Nat) (m29 : Nat) (v30 : Int32) (m31 : Nat) (m32 : Nat) (m33 : Nat) (v34 : Int32) (v35 : Int32) (v36 : Int32) (m37 : Nat) (m38 : Nat) (m39 : Nat) (m40 : Nat) (v41 : Int64) (f16 : Nat → Int32) (f17 : Nat → Int32) (f20 : Nat → Int32) (f37 : Nat → Int32) (f38 : Nat → Int32) (sz : Nat) (h_v6 : 0 ≤ v6.toInt ∧ v6.toInt ≤ 1000) (h_v24 : 0 ≤ v24.toInt ∧ v24.toInt ≤ 1023) (hp_f17_0 : PR 30 6 0 0 8 f17) (hp_f17_1 : PR 30 6 1 0 10 f17) (hp_f17_2 : PR 30 6 2 0 4 f17) (hp_f17_3 : PR 30 6 3 0 6 f17) (hp_f17_4 : PR 30 6 4 0 2 f17) (hp_f17_5 : PR 30 6 5 0 40 f17) (hp_f20_0 : PR 120 4 0 0 7 f20) : Met l yX12_cart (ww yX12_cart cX12_cart 6 (some .int)) ({ frames := 8, cells := 0, slots := 0, locals := 191 }) (Pre0 D k [(mo, .inr (12, [.int v0, .ref m1, .ref m2, .ref m3, .ref m4, .ref m5, .int v6, .int v7, .int v8, .int v9, .int v10, .long v11, .int v12, .int v13, .int v14, .int v15, .ref m16, .ref m17, .ref m18, .ref m19, .ref m20, .ref m21, .ref m22, .ref m23, .int v24, .ref m25, .ref m26, .ref m27, .ref m28, .ref m29, .int v30, .ref m31, .ref m32, .ref m33, .int v34, .int v35, .int v36, .ref m37, .ref m38, .ref m39, .ref m40, .long v41])), (m16, .inl (k 0, 5, .inl f16)), (m17, .inl (k 0, 30, .inl f17)), (m20, .inl (k 0, 120, .inl f20)), (m37, .inl (k 0, 6, .inl f37)), (m38, .inl (k 0, 6, .inl f38))] sz [.ref mo, .int p0, .int p1]) (va_Qi (fun (r : Int32) (u : Int32 × (Nat → Int32) × (Nat → Int32)) => match u with | (v0z, f37z, f38z) => ((-2) ≤ r.toInt ∧ r.toInt ≤ 1023) ∧ (0 ≤ v0z.toInt ∧ v0z.toInt ≤ 0)) (fun (u : Int32 × (Nat → Int32) × (Nat → Int32)) tZ => match u with | (v0z, f37z, f38z) => Bw D k (va_A [(mo, .inr (12, [.int v0, .ref m1, .ref m2, .ref m3, .ref m4, .ref m5, .int v6, .int v7, .int v8, .int v9, .int v10, .long v11, .int v12, .int v13, .int v14, .int v15, .ref m16, .ref m17, .ref m18, .ref m19, .ref m20, .ref m21, .ref m22, .ref m23, .int v24, .ref m25, .ref m26, .ref m27, .ref m28, .ref m29, .int v30, .ref m31, .ref m32, .ref m33, .int v34, .int v35, .int v36, .ref m37, .ref m38, .ref m39, .ref m40, .long v41])), (m16, .inl (k 0, 5, .inl f16)), (m17, .inl (k 0, 30, .inl f17)), (m20, .inl (k 0, 120, .inl f20)), (m37, .inl (k 0, 6, .inl f37)), (m38, .inl (k 0, 6, .inl f38))] sz) [(mo, .inr (12, [.int v0z, .ref m1, .ref m2, .ref m3, .ref m4, .ref m5, .int v6, .int v7, .int v8, .int v9, .int v10, .long v11, .int v12, .int v13, .int v14, .int v15, .ref m16, .ref m17, .ref m18, .ref m19, .ref m20, .ref m21, .ref m22, .ref m23, .int v24, .ref m25, .ref m26, .ref m27, .ref m28, .ref m29, .int v30, .ref m31, .ref m32, .ref m33, .int v34, .int v35, .int v36, .ref m37, .ref m38, .ref m39, .ref m40, .long v41])), (m16, .inl (k 0, 5, .inl f16)), (m17, .inl (k 0, 30, .inl f17)), (m20, .inl (k 0, 120, .inl f20)), (m37, .inl (k 0, 6, .inl f37z)), (m38, .inl (k 0, 6, .inl f38z))] tZ) (va_A [(mo, .inr (12, [.int v0, .ref m1, .ref m2, .ref m3, .ref m4, .ref m5, .int v6, .int v7, .int v8, .int v9, .int v10, .long v11, .int v12, .int v13, .int v14, .int v15, .ref m16, .ref m17, .ref m18, .ref m19, .ref m20, .ref m21, .ref m22, .ref m23, .int v24, .ref m25, .ref m26, .ref m27, .ref m28, .ref m29, .int v30, .ref m31, .ref m32, .ref m33, .int v34, .int v35, .int v36, .ref m37, .ref m38, .ref m39, .ref m40, .long v41])), (m16, .inl (k 0, 5, .inl f16)), (m17, .inl (k 0, 30, .inl f17)), (m20, .inl (k 0, 120, .inl f20)), (m37, .inl (k 0, 6, .inl f37)), (m38, .inl (k 0, 6, .inl f38))] sz)) 0 0 (va_A [(mo, .inr (12, [.int v0, .ref m1, .ref m2, .ref m3, .ref m4, .ref m5, .int v6, .int v7, .int v8, .int v9, .int v10, .long v11, .int v12, .int v13, .int v14, .int v15, .ref m16, .ref m17, .ref m18, .ref m19, .ref m20, .ref m21, .ref m22, .ref m23, .int v24, .ref m25, .ref m26, .ref m27, .ref m28, .ref m29, .int v30, .ref m31, .ref m32, .ref m33, .int v34, .int v35, .int v36, .ref m37, .ref m38, .ref m39, .ref m40, .long v41])), (m16, .inl (k 0, 5, .inl f16)), (m17, .inl (k 0, 30, .inl f17)), (m20, .inl (k 0, 120, .inl f20)), (m37, .inl (k 0, 6, .inl f37)), (m38, .inl (k 0, 6, .inl f38))] sz) := by
  refine Met.ofW (cc := cX12_cart) (maxL := 6) (ret := (some .int)) (by decide +kernel) rfl ?_
  intro p e s m args below meth c s₁ B hml hv
  obtain ⟨rfl, hsz, hP, hK, hD0, hN⟩ := hv
  have hx := B.exec
  have hb := B.bytes
  have hr := B.returns
  have hts : ∀ w ∈ TT, w.before _ s = true := fun w h => atoms_spec (ws := ww yX12_cart cX12_cart 6 (some .int)) B.pre w (List.mem_cons_of_mem _ h)
  have hown : s.vm.findClass RX12 = some m.cls := findClass_of_methodNamed B.named
  have hlocks := B.notSynchronized
  subst hsz
  have hD := hD0.self (sz := s.heap.size)
  generalize hAe : va_A [(mo, .inr (12, [.int v0, .ref m1, .ref m2, .ref m3, .ref m4, .ref m5, .int v6, .int v7, .int v8, .int v9, .int v10, .long v11, .int v12, .int v13, .int v14, .int v15, .ref m16, .ref m17, .ref m18, .ref m19, .ref m20, .ref m21, .ref m22, .ref m23, .int v24, .ref m25, .ref m26, .ref m27, .ref m28, .ref m29, .int v30, .ref m31, .ref m32, .ref m33, .int v34, .int v35, .int v36, .ref m37, .ref m38, .ref m39, .ref m40, .long v41])), (m16, .inl (k 0, 5, .inl f16)), (m17, .inl (k 0, 30, .inl f17)), (m20, .inl (k 0, 120, .inl f20)), (m37, .inl (k 0, 6, .inl f37)), (m38, .inl (k 0, 6, .inl f38))] s.heap.size = A at hD ⊢
  have hA : ∀ q : Nat, s.heap.size ≤ q → A q := fun q h => by rw [← hAe]; exact Or.inr h
  have hS : va_S A s.heap s.heap [] := va_S.rf
  have hl := lv_entry ([.ref mo, .int p0, .int p1]) (n := 6) (Nat.le_of_ble_eq_true rfl)
  rw [lg_entry_eq]
  generalize (lg_sl ([.ref mo, .int p0, .int p1]) ++ List.replicate (6 - (lg_sl ([.ref mo, .int p0, .int p1])).length) Slot.unset).toArray = ls at hl ⊢
  have hl : lv_has ls 6 [(0, .ref mo), (1, .int p0), (2, .int p1)] := hl
  refine lv_aload_n hx hb dX12_cart_0 rfl (lv_at hl 0 rfl) ?_
  refine lv_iconst (v := 0) hx hb dX12_cart_1 (by decide) ?_
  refine va_put (D := D) (ci := 12) (v := .int 0) (ty := tyX12 0) (C := RX12) (T := TX12) (N := 42) hx hb hts iT_X12 tyX12 tyX12_ok nmX12 hown hK hP hD hS 0 rfl rfl 0 (by decide) (hts _ tw_6_53) (fun _ h9 => h9) rfl (tyX12_ok 0 (by decide)) rfl rfl (Nat.le_of_ble_eq_true rfl) dX12_cart_2 (fun H locs hP hD hS => ?_)
  have hP : va_P D vwCl [(mo, .inr (12, [.int 0, .ref m1, .ref m2, .ref m3, .ref m4, .ref m5, .int v6, .int v7, .int v8, .int v9, .int v10, .long v11, .int v12, .int v13, .int v14, .int v15, .ref m16, .ref m17, .ref m18, .ref m19, .ref m20, .ref m21, .ref m22, .ref m23, .int v24, .ref m25, .ref m26, .ref m27, .ref m28, .ref m29, .int v30, .ref m31, .ref m32, .ref m33, .int v34, .int v35, .int v36, .ref m37, .ref m38, .ref m39, .ref m40, .long v41])), (m16, .inl (k 0, 5, .inl f16)), (m17, .inl (k 0, 30, .inl f17)), (m20, .inl (k 0, 120, .inl f20)), (m37, .inl (k 0, 6, .inl f37)), (m38, .inl (k 0, 6, .inl f38))] H := hP
  have hD : va_D A [(mo, .inr (12, [.int 0, .ref m1, .ref m2, .ref m3, .ref m4, .ref m5, .int v6, .int v7, .int v8, .int v9, .int v10, .long v11, .int v12, .int v13, .int v14, .int v15, .ref m16, .ref m17, .ref m18, .ref m19, .ref m20, .ref m21, .ref m22, .ref m23, .int v24, .ref m25, .ref m26, .ref m27, .ref m28, .ref m29, .int v30, .ref m31, .ref m32, .ref m33, .int v34, .int v35, .int v36, .ref m37, .ref m38, .ref m39, .ref m40, .long v41])), (m16, .inl (k 0, 5, .inl f16)), (m17, .inl (k 0, 30, .inl f17)), (m20, .inl (k 0, 120, .inl f20)), (m37, .inl (k 0, 6, .inl f37)), (m38, .inl (k 0, 6, .inl f38))] := hD
  refine lv_aload_n hx hb dX12_cart_5 rfl (lv_at hl 0 rfl) ?_
  refine lv_iload_n hx hb dX12_cart_6 rfl (lv_at hl 1 rfl) ?_
  obtain ⟨hPc, hDc, hFc⟩ := sub3 hP hD hS hA (ws' := [(mo, .inr (12, [.int 0, .ref m1, .ref m2, .ref m3, .ref m4, .ref m5, .int v6, .int v7, .int v8, .int v9, .int v10, .long v11, .int v12, .int v13, .int v14, .int v15, .ref m16, .ref m17, .ref m18, .ref m19, .ref m20, .ref m21, .ref m22, .ref m23, .int v24, .ref m25, .ref m26, .ref m27, .ref m28, .ref m29, .int v30, .ref m31, .ref m32, .ref m33, .int v34, .int v35, .int v36, .ref m37, .ref m38, .ref m39, .ref m40, .long v41])), (m16, .inl (k 0, 5, .inl f16))]) [0, 1] (by decide +kernel) rfl
  refine va_calli (va_runV (C := RX12) (As := [.int p0]) (rest := []) ⟨hx, hb, hml, hown, hts⟩ (c_X12_isCart l D k mo p0 0 m1 m2 m3 m4 m5 v6 v7 v8 v9 v10 v11 v12 v13 v14 v15 m16 m17 m18 m19 m20 m21 m22 m23 v24 m25 m26 m27 m28 m29 v30 m31 m32 m33 v34 v35 v36 m37 m38 m39 m40 v41 f16 H.size (show 0 ≤ v6.toInt ∧ v6.toInt ≤ 1000 from by omega) (show 0 ≤ v24.toInt ∧ v24.toInt ≤ 1023 from by omega)) (cwV 1 hts (gV tw_8_137 tw_8_139 tw_p_88 tw_1_13 tw_8_140) rfl rfl rfl hdV_X12_isCart ⟨Nat.le_of_ble_eq_true rfl, Nat.le_of_ble_eq_true rfl⟩) (cz_V hK hPc hDc hN (ci := 12) (q0 := 0) rfl rfl [.int p0]) rfl rfl hl.1 rfl (lv_room (Nat.le_of_ble_eq_true rfl)) dX12_cart_7 ⟨Nat.le_of_ble_eq_true rfl, Nat.le_of_ble_eq_true rfl⟩) hS (fun q _ h => hFc q h) hFc (fun r_1 uZ tZ H1 locs ht hvm hw hB hz1 hk1 hS => ?_)
  obtain ⟨hP1, hK1, hD1⟩ := hB
  rw [ht] at hP1
  obtain ⟨hP, hD⟩ := va_join (wr := [(m17, .inl (k 0, 30, .inl f17)), (m20, .inl (k 0, 120, .inl f20)), (m37, .inl (k 0, 6, .inl f37)), (m38, .inl (k 0, 6, .inl f38))]) (w1 := [(mo, .inr (12, [.int 0, .ref m1, .ref m2, .ref m3, .ref m4, .ref m5, .int v6, .int v7, .int v8, .int v9, .int v10, .long v11, .int v12, .int v13, .int v14, .int v15, .ref m16, .ref m17, .ref m18, .ref m19, .ref m20, .ref m21, .ref m22, .ref m23, .int v24, .ref m25, .ref m26, .ref m27, .ref m28, .ref m29, .int v30, .ref m31, .ref m32, .ref m33, .int v34, .int v35, .int v36, .ref m37, .ref m38, .ref m39, .ref m40, .long v41])), (m16, .inl (k 0, 5, .inl f16))]) hP hD [0, 1] [2, 3, 4, 5] rfl rfl (by decide +kernel) (by decide +kernel) hk1 hFc hP1 hD1
  clear hK1 hP1 hD1 hPc hDc hFc
  clear hk1 hz1 ht hvm
  have hP : va_P D vwCl [(m17, .inl (k 0, 30, .inl f17)), (m20, .inl (k 0, 120, .inl f20)), (m37, .inl (k 0, 6, .inl f37)), (m38, .inl (k 0, 6, .inl f38)), (mo, .inr (12, [.int 0, .ref m1, .ref m2, .ref m3, .ref m4, .ref m5, .int v6, .int v7, .int v8, .int v9, .int v10, .long v11, .int v12, .int v13, .int v14, .int v15, .ref m16, .ref m17, .ref m18, .ref m19, .ref m20, .ref m21, .ref m22, .ref m23, .int v24, .ref m25, .ref m26, .ref m27, .ref m28, .ref m29, .int v30, .ref m31, .ref m32, .ref m33, .int v34, .int v35, .int v36, .ref m37, .ref m38, .ref m39, .ref m40, .long v41])), (m16, .inl (k 0, 5, .inl f16))] H1 := hP
  have hD : va_D A [(m17, .inl (k 0, 30, .inl f17)), (m20, .inl (k 0, 120, .inl f20)), (m37, .inl (k 0, 6, .inl f37)), (m38, .inl (k 0, 6, .inl f38)), (mo, .inr (12, [.int 0, .ref m1, .ref m2, .ref m3, .ref m4, .ref m5, .int v6, .int v7, .int v8, .int v9, .int v10, .long v11, .int v12, .int v13, .int v14, .int v15, .ref m16, .ref m17, .ref m18, .ref m19, .ref m20, .ref m21, .ref m22, .ref m23, .int v24, .ref m25, .ref m26, .ref m27, .ref m28, .ref m29, .int v30, .ref m31, .ref m32, .ref m33, .int v34, .int v35, .int v36, .ref m37, .ref m38, .ref m39, .ref m40, .long v41])), (m16, .inl (k 0, 5, .inl f16))] := hD
  generalize H1 = H at hP hS ⊢
  have hw_2 : (0 ≤ r_1.toInt ∧ r_1.toInt ≤ 1) ∧ ((r_1.toInt = 1 ∧ 1 ≤ p0.toInt ∧ p0.toInt ≤ 99) ∨ r_1.toInt = 0) := hw
  obtain ⟨hw_3, hw_4⟩ := hw_2
  clear hw
  refine lv_if_ne (tgt := 16) hx hb dX12_cart_10 (by decide) (fun h_5 => ?_) (fun h_5 => ?_)
  · skip
    have zh_5 : ¬ r_1.toInt = 0 := z_ne h_5
    refine lv_aload_n hx hb dX12_cart_16 rfl (lv_at hl 0 rfl) ?_
    refine lv_iload_n hx hb dX12_cart_17 rfl (lv_at hl 1 rfl) ?_
    obtain ⟨hPc, hDc, hFc⟩ := sub3 hP hD hS hA (ws' := [(mo, .inr (12, [.int 0, .ref m1, .ref m2, .ref m3, .ref m4, .ref m5, .int v6, .int v7, .int v8, .int v9, .int v10, .long v11, .int v12, .int v13, .int v14, .int v15, .ref m16, .ref m17, .ref m18, .ref m19, .ref m20, .ref m21, .ref m22, .ref m23, .int v24, .ref m25, .ref m26, .ref m27, .ref m28, .ref m29, .int v30, .ref m31, .ref m32, .ref m33, .int v34, .int v35, .int v36, .ref m37, .ref m38, .ref m39, .ref m40, .long v41])), (m17, .inl (k 0, 30, .inl f17)), (m20, .inl (k 0, 120, .inl f20)), (m37, .inl (k 0, 6, .inl f37)), (m38, .inl (k 0, 6, .inl f38))]) [4, 0, 1, 2, 3] (by decide +kernel) rfl
    refine va_calli (va_runV (C := RX12) (As := [.int p0]) (rest := []) ⟨hx, hb, hml, hown, hts⟩ (c_X12_cartsOf l D k mo p0 0 m1 m2 m3 m4 m5 v6 v7 v8 v9 v10 v11 v12 v13 v14 v15 m16 m17 m18 m19 m20 m21 m22 m23 v24 m25 m26 m27 m28 m29 v30 m31 m32 m33 v34 v35 v36 m37 m38 m39 m40 v41 f17 f20 f37 f38 H.size (show 0 ≤ v6.toInt ∧ v6.toInt ≤ 1000 from by omega) (show 0 ≤ v24.toInt ∧ v24.toInt ≤ 1023 from by omega) hp_f17_0 hp_f17_1 hp_f17_2 hp_f17_3 hp_f17_4 hp_f17_5 hp_f20_0) (cwV 1 hts (gV tw_8_142 tw_8_144 tw_p_89 tw_1_13 tw_8_145) rfl rfl rfl hdV_X12_cartsOf ⟨Nat.le_of_ble_eq_true rfl, Nat.le_of_ble_eq_true rfl⟩) (cz_V hK hPc hDc hN (ci := 12) (q0 := 0) rfl rfl [.int p0]) rfl rfl hl.1 rfl (lv_room (Nat.le_of_ble_eq_true rfl)) dX12_cart_18 ⟨Nat.le_of_ble_eq_true rfl, Nat.le_of_ble_eq_true rfl⟩) hS (fun q _ h => hFc q h) hFc (fun r_6 uZ tZ H1 locs ht hvm hw hB hz1 hk1 hS => ?_)
    obtain ⟨o_7, o_8⟩ := uZ
    obtain ⟨hP1, hK1, hD1⟩ := hB
    rw [ht] at hP1
    obtain ⟨hP, hD⟩ := va_join (wr := [(m16, .inl (k 0, 5, .inl f16))]) (w1 := [(mo, .inr (12, [.int 0, .ref m1, .ref m2, .ref m3, .ref m4, .ref m5, .int v6, .int v7, .int v8, .int v9, .int v10, .long v11, .int v12, .int v13, .int v14, .int v15, .ref m16, .ref m17, .ref m18, .ref m19, .ref m20, .ref m21, .ref m22, .ref m23, .int v24, .ref m25, .ref m26, .ref m27, .ref m28, .ref m29, .int v30, .ref m31, .ref m32, .ref m33, .int v34, .int v35, .int v36, .ref m37, .ref m38, .ref m39, .ref m40, .long v41])), (m17, .inl (k 0, 30, .inl f17)), (m20, .inl (k 0, 120, .inl f20)), (m37, .inl (k 0, 6, .inl o_7)), (m38, .inl (k 0, 6, .inl o_8))]) hP hD [4, 0, 1, 2, 3] [5] rfl rfl (by decide +kernel) (by decide +kernel) hk1 hFc hP1 hD1
    clear hK1 hP1 hD1 hPc hDc hFc
    clear hk1 hz1 ht hvm
    have hP : va_P D vwCl [(m16, .inl (k 0, 5, .inl f16)), (mo, .inr (12, [.int 0, .ref m1, .ref m2, .ref m3, .ref m4, .ref m5, .int v6, .int v7, .int v8, .int v9, .int v10, .long v11, .int v12, .int v13, .int v14, .int v15, .ref m16, .ref m17, .ref m18, .ref m19, .ref m20, .ref m21, .ref m22, .ref m23, .int v24, .ref m25, .ref m26, .ref m27, .ref m28, .ref m29, .int v30, .ref m31, .ref m32, .ref m33, .int v34, .int v35, .int v36, .ref m37, .ref m38, .ref m39, .ref m40, .long v41])), (m17, .inl (k 0, 30, .inl f17)), (m20, .inl (k 0, 120, .inl f20)), (m37, .inl (k 0, 6, .inl o_7)), (m38, .inl (k 0, 6, .inl o_8))] H1 := hP
    have hD : va_D A [(m16, .inl (k 0, 5, .inl f16)), (mo, .inr (12, [.int 0, .ref m1, .ref m2, .ref m3, .ref m4, .ref m5, .int v6, .int v7, .int v8, .int v9, .int v10, .long v11, .int v12, .int v13, .int v14, .int v15, .ref m16, .ref m17, .ref m18, .ref m19, .ref m20, .ref m21, .ref m22, .ref m23, .int v24, .ref m25, .ref m26, .ref m27, .ref m28, .ref m29, .int v30, .ref m31, .ref m32, .ref m33, .int v34, .int v35, .int v36, .ref m37, .ref m38, .ref m39, .ref m40, .long v41])), (m17, .inl (k 0, 30, .inl f17)), (m20, .inl (k 0, 120, .inl f20)), (m37, .inl (k 0, 6, .inl o_7)), (m38, .inl (k 0, 6, .inl o_8))] := hD
    generalize H1 = H at hP hS ⊢
    have hw_9 : ((-1) ≤ r_6.toInt ∧ r_6.toInt ≤ 6) := hw
    have hw_10 := hw_9
    clear hw
    refine lv_istore_n (lv' := [(3, .int r_6), (0, .ref mo), (1, .int p0), (2, .int p1)]) hx hb dX12_cart_21 rfl hl (by decide) rfl (fun ls hl => ?_)
    refine lv_iload_n hx hb dX12_cart_22 rfl (lv_at hl 3 rfl) ?_
    refine lv_i2l (v := p1.toInt64) hx hb dX12_cart_23 rfl ?_
    refine lv_lconst (v := 0) hx hb dX12_cart_24 (by decide) ?_
    refine lv_iload_n hx hb dX12_cart_25 rfl (lv_at hl 0 rfl) ?_
    refine lv_iconst (v := 1) hx hb dX12_cart_26 (by decide) ?_
    refine lv_isub hx hb dX12_cart_27 ?_
    refine lv_topi (fun x_11 ex_11 => ?_)
    have zx_11 : x_11.toInt = r_6.toInt - 1 := by rw [ex_11]; exact z_sub rfl rfl (by omega) (by omega)
    refine lv_i2l (v := x_11.toInt64) hx hb dX12_cart_28 rfl ?_
    obtain ⟨hPc, hDc, hFc⟩ := sub3 hP hD hS hA (ws' := []) [] (by decide +kernel) rfl
    refine va_calli (va_runS (As := [.long p1.toInt64, .long 0, .long x_11.toInt64]) (rest := []) ⟨hx, hb, hml, hown, hts⟩ (c_X12_in l D k p1.toInt64 0 x_11.toInt64 H.size) (va_cwS 3 hts (gS tw_6_188 tw_6_189 tw_1_13 tw_6_190) rfl rfl rfl hdS_X12_in ⟨Nat.le_of_ble_eq_true rfl, Nat.le_of_ble_eq_true rfl⟩) (cz_S hK hPc hDc hN [.long p1.toInt64, .long 0, .long x_11.toInt64]) rfl rfl hl.1 rfl (lv_room (Nat.le_of_ble_eq_true rfl)) dX12_cart_29 ⟨Nat.le_of_ble_eq_true rfl, Nat.le_of_ble_eq_true rfl⟩) hS (fun q _ h => hFc q h) hFc (fun r_12 uZ tZ H1 locs ht hvm hw hB hz1 hk1 hS => ?_)
    obtain ⟨hP1, hK1, hD1⟩ := hB
    rw [ht] at hP1
    obtain ⟨hP, hD⟩ := va_join (wr := [(m16, .inl (k 0, 5, .inl f16)), (mo, .inr (12, [.int 0, .ref m1, .ref m2, .ref m3, .ref m4, .ref m5, .int v6, .int v7, .int v8, .int v9, .int v10, .long v11, .int v12, .int v13, .int v14, .int v15, .ref m16, .ref m17, .ref m18, .ref m19, .ref m20, .ref m21, .ref m22, .ref m23, .int v24, .ref m25, .ref m26, .ref m27, .ref m28, .ref m29, .int v30, .ref m31, .ref m32, .ref m33, .int v34, .int v35, .int v36, .ref m37, .ref m38, .ref m39, .ref m40, .long v41])), (m17, .inl (k 0, 30, .inl f17)), (m20, .inl (k 0, 120, .inl f20)), (m37, .inl (k 0, 6, .inl o_7)), (m38, .inl (k 0, 6, .inl o_8))]) (w1 := []) hP hD [] [0, 1, 2, 3, 4, 5] rfl rfl (by decide +kernel) (by decide +kernel) hk1 hFc hP1 hD1
    clear hK1 hP1 hD1 hPc hDc hFc
    clear hk1 hz1 ht hvm
    have hP : va_P D vwCl [(m16, .inl (k 0, 5, .inl f16)), (mo, .inr (12, [.int 0, .ref m1, .ref m2, .ref m3, .ref m4, .ref m5, .int v6, .int v7, .int v8, .int v9, .int v10, .long v11, .int v12, .int v13, .int v14, .int v15, .ref m16, .ref m17, .ref m18, .ref m19, .ref m20, .ref m21, .ref m22, .ref m23, .int v24, .ref m25, .ref m26, .ref m27, .ref m28, .ref m29, .int v30, .ref m31, .ref m32, .ref m33, .int v34, .int v35, .int v36, .ref m37, .ref m38, .ref m39, .ref m40, .long v41])), (m17, .inl (k 0, 30, .inl f17)), (m20, .inl (k 0, 120, .inl f20)), (m37, .inl (k 0, 6, .inl o_7)), (m38, .inl (k 0, 6, .inl o_8))] H1 := hP
    have hD : va_D A [(m16, .inl (k 0, 5, .inl f16)), (mo, .inr (12, [.int 0, .ref m1, .ref m2, .ref m3, .ref m4, .ref m5, .int v6, .int v7, .int v8, .int v9, .int v10, .long v11, .int v12, .int v13, .int v14, .int v15, .ref m16, .ref m17, .ref m18, .ref m19, .ref m20, .ref m21, .ref m22, .ref m23, .int v24, .ref m25, .ref m26, .ref m27, .ref m28, .ref m29, .int v30, .ref m31, .ref m32, .ref m33, .int v34, .int v35, .int v36, .ref m37, .ref m38, .ref m39, .ref m40, .long v41])), (m17, .inl (k 0, 30, .inl f17)), (m20, .inl (k 0, 120, .inl f20)), (m37, .inl (k 0, 6, .inl o_7)), (m38, .inl (k 0, 6, .inl o_8))] := hD
    generalize H1 = H at hP hS ⊢
    have hw_13 : (0 ≤ r_12.toInt ∧ r_12.toInt ≤ 1) ∧ ((r_12.toInt = 1 ∧ 0 ≤ p1.toInt64.toInt ∧ p1.toInt64.toInt ≤ x_11.toInt64.toInt) ∨ (r_12.toInt = 0 ∧ (p1.toInt64.toInt < 0 ∨ x_11.toInt64.toInt < p1.toInt64.toInt))) := hw
    obtain ⟨hw_14, hw_15⟩ := hw_13
    clear hw
    simp only [Int32.toInt_toInt64] at hw_14 hw_15
    refine lv_if_ne (tgt := 37) hx hb dX12_cart_32 (by decide) (fun h_16 => ?_) (fun h_16 => ?_)
    · skip
      have zh_16 : ¬ r_12.toInt = 0 := z_ne h_16
      refine lv_iconst (v := 0) hx hb dX12_cart_37 (by decide) ?_
      refine lv_istore (lv' := [(4, .int 0), (3, .int r_6), (0, .ref mo), (1, .int p0), (2, .int p1)]) hx hb dX12_cart_38 hl (by decide) rfl (fun ls hl => ?_)
      refine lv_iconst (v := 0) hx hb dX12_cart_40 (by decide) ?_
      refine lv_istore (lv' := [(5, .int 0), (4, .int 0), (3, .int r_6), (0, .ref mo), (1, .int p0), (2, .int p1)]) hx hb dX12_cart_41 hl (by decide) rfl (fun ls hl => ?_)
      refine loop_r (Wg := fun H locs ls => W p l e _ s m _ below meth c H locs _ _ _ (F0 m 43 ls [])) (fun n9 H locs ls => ∃ (L43l4 : Int32) (L43l5 : Int32), n9 = (6 - L43l5.toInt).toNat ∧ (0 ≤ L43l4.toInt ∧ L43l4.toInt ≤ 1023) ∧ (0 ≤ L43l5.toInt ∧ L43l5.toInt ≤ 6) ∧ va_P D vwCl [(m16, .inl (k 0, 5, .inl f16)), (mo, .inr (12, [.int 0, .ref m1, .ref m2, .ref m3, .ref m4, .ref m5, .int v6, .int v7, .int v8, .int v9, .int v10, .long v11, .int v12, .int v13, .int v14, .int v15, .ref m16, .ref m17, .ref m18, .ref m19, .ref m20, .ref m21, .ref m22, .ref m23, .int v24, .ref m25, .ref m26, .ref m27, .ref m28, .ref m29, .int v30, .ref m31, .ref m32, .ref m33, .int v34, .int v35, .int v36, .ref m37, .ref m38, .ref m39, .ref m40, .long v41])), (m17, .inl (k 0, 30, .inl f17)), (m20, .inl (k 0, 120, .inl f20)), (m37, .inl (k 0, 6, .inl o_7)), (m38, .inl (k 0, 6, .inl o_8))] H ∧ va_D A [(m16, .inl (k 0, 5, .inl f16)), (mo, .inr (12, [.int 0, .ref m1, .ref m2, .ref m3, .ref m4, .ref m5, .int v6, .int v7, .int v8, .int v9, .int v10, .long v11, .int v12, .int v13, .int v14, .int v15, .ref m16, .ref m17, .ref m18, .ref m19, .ref m20, .ref m21, .ref m22, .ref m23, .int v24, .ref m25, .ref m26, .ref m27, .ref m28, .ref m29, .int v30, .ref m31, .ref m32, .ref m33, .int v34, .int v35, .int v36, .ref m37, .ref m38, .ref m39, .ref m40, .long v41])), (m17, .inl (k 0, 30, .inl f17)), (m20, .inl (k 0, 120, .inl f20)), (m37, .inl (k 0, 6, .inl o_7)), (m38, .inl (k 0, 6, .inl o_8))] ∧ va_S A s.heap H locs ∧ lv_has ls 6 [(0, .ref mo), (1, .int p0), (2, .int p1), (3, .int r_6), (4, .int L43l4), (5, .int L43l5)]) (fun n9 H locs ls hI ih_17 => ?_) _ _ _ _ ⟨0, 0, rfl, (show 0 ≤ 0 ∧ 0 ≤ 1023 from by omega), (show 0 ≤ 0 ∧ 0 ≤ 6 from by omega), hP.sub (ws' := [(m16, .inl (k 0, 5, .inl f16)), (mo, .inr (12, [.int 0, .ref m1, .ref m2, .ref m3, .ref m4, .ref m5, .int v6, .int v7, .int v8, .int v9, .int v10, .long v11, .int v12, .int v13, .int v14, .int v15, .ref m16, .ref m17, .ref m18, .ref m19, .ref m20, .ref m21, .ref m22, .ref m23, .int v24, .ref m25, .ref m26, .ref m27, .ref m28, .ref m29, .int v30, .ref m31, .ref m32, .ref m33, .int v34, .int v35, .int v36, .ref m37, .ref m38, .ref m39, .ref m40, .long v41])), (m17, .inl (k 0, 30, .inl f17)), (m20, .inl (k 0, 120, .inl f20)), (m37, .inl (k 0, 6, .inl o_7)), (m38, .inl (k 0, 6, .inl o_8))]) [0, 1, 2, 3, 4, 5] rfl, hD.sub (ws' := [(m16, .inl (k 0, 5, .inl f16)), (mo, .inr (12, [.int 0, .ref m1, .ref m2, .ref m3, .ref m4, .ref m5, .int v6, .int v7, .int v8, .int v9, .int v10, .long v11, .int v12, .int v13, .int v14, .int v15, .ref m16, .ref m17, .ref m18, .ref m19, .ref m20, .ref m21, .ref m22, .ref m23, .int v24, .ref m25, .ref m26, .ref m27, .ref m28, .ref m29, .int v30, .ref m31, .ref m32, .ref m33, .int v34, .int v35, .int v36, .ref m37, .ref m38, .ref m39, .ref m40, .long v41])), (m17, .inl (k 0, 30, .inl f17)), (m20, .inl (k 0, 120, .inl f20)), (m37, .inl (k 0, 6, .inl o_7)), (m38, .inl (k 0, 6, .inl o_8))]) [0, 1, 2, 3, 4, 5] (by decide +kernel) rfl, hS, lv_sub hl [3, 4, 5, 2, 1, 0] rfl⟩
      clear hP hD hS hl
      obtain ⟨L43l4, L43l5, en_18, zL43l4, zL43l5, hP, hD, hS, hl⟩ := hI
      refine lv_iload hx hb dX12_cart_43 (lv_at hl 5 rfl) ?_
      refine lv_aload_n hx hb dX12_cart_45 rfl (lv_at hl 0 rfl) ?_
      refine va_get (D := D) (ci := 12) (v := .ref m17) (C := RX12) (T := TX12) (N := 42) hx hb hts iT_X12 hown hK hP 1 rfl rfl 17 (by decide) (hts _ tw_6_70) (fun _ h9 => h9) rfl dX12_cart_46 ?_
      refine lv_iconst (v := 3) hx hb dX12_cart_49 (by decide) ?_
      refine va_iald hx hb hK hP 2 0 rfl rfl (z_in (by decide) (by decide)) dX12_cart_50 ?_
      refine lv_topi (fun x_19 ex_19 => ?_)
      have zx_19r3 : 0 ≤ x_19.toInt ∧ x_19.toInt ≤ 6 := by rw [ex_19]; exact PR.ld hp_f17_3 (by decide) (by decide) (by decide)
      refine lv_icmp_ge (tgt := 84) hx hb dX12_cart_51 (by decide) (fun h_20 => ?_) (fun h_20 => ?_)
      · skip
        have zh_20 : x_19.toInt ≤ L43l5.toInt := z_le h_20
        refine lv_iload hx hb dX12_cart_84 (lv_at hl 4 rfl) ?_
        obtain ⟨hP9, hD9⟩ := sub2 hP hD (ws' := [(mo, .inr (12, [.int 0, .ref m1, .ref m2, .ref m3, .ref m4, .ref m5, .int v6, .int v7, .int v8, .int v9, .int v10, .long v11, .int v12, .int v13, .int v14, .int v15, .ref m16, .ref m17, .ref m18, .ref m19, .ref m20, .ref m21, .ref m22, .ref m23, .int v24, .ref m25, .ref m26, .ref m27, .ref m28, .ref m29, .int v30, .ref m31, .ref m32, .ref m33, .int v34, .int v35, .int v36, .ref m37, .ref m38, .ref m39, .ref m40, .long v41])), (m16, .inl (k 0, 5, .inl f16)), (m17, .inl (k 0, 30, .inl f17)), (m20, .inl (k 0, 120, .inl f20)), (m37, .inl (k 0, 6, .inl o_7)), (m38, .inl (k 0, 6, .inl o_8))]) [1, 0, 2, 3, 4, 5] (by decide +kernel) rfl
        exact W.iret (v := L43l4) hx hb hr (fun tZ ht hW => ⟨⟨L43l4, (0, o_7, o_8), rfl, ⟨(show (-2) ≤ L43l4.toInt ∧ L43l4.toInt ≤ 1023 from by omega), (show 0 ≤ 0 ∧ 0 ≤ 0 from by omega)⟩, by rw [ht]; exact hP9, va_K.moved hW.alike hK, hD9⟩, hS.F ht⟩) hS.2.2 dX12_cart_86
      · skip
        have zh_20 : L43l5.toInt < x_19.toInt := z_nle h_20
        refine lv_iload hx hb dX12_cart_54 (lv_at hl 4 rfl) ?_
        refine lv_aload_n hx hb dX12_cart_56 rfl (lv_at hl 0 rfl) ?_
        refine va_get (D := D) (ci := 12) (v := .ref m38) (C := RX12) (T := TX12) (N := 42) hx hb hts iT_X12 hown hK hP 1 rfl rfl 38 (by decide) (hts _ tw_6_91) (fun _ h9 => h9) rfl dX12_cart_57 ?_
        refine lv_iload hx hb dX12_cart_60 (lv_at hl 5 rfl) ?_
        refine va_iald hx hb hK hP 5 0 rfl rfl (z_in (by omega) (by omega)) dX12_cart_62 ?_
        refine lv_topi (fun x_21 ex_21 => ?_)
        refine lv_iload_n hx hb dX12_cart_63 rfl (lv_at hl 2 rfl) ?_
        refine lv_icmp_ne (tgt := 74) hx hb dX12_cart_64 (by decide) (fun h_22 => ?_) (fun h_22 => ?_)
        · skip
          have zh_22 : ¬ x_21.toInt = p1.toInt := z_ne h_22
          refine lv_iconst (v := 0) hx hb dX12_cart_74 (by decide) ?_
          refine lv_ior hx hb dX12_cart_75 ?_
          refine lv_topi (fun x_23 ex_23 => ?_)
          have zx_23 : 0 ≤ x_23.toInt ∧ x_23.toInt < 1024 := by rw [ex_23]; exact z_or 10 1024 rfl (by decide) ⟨by omega, by omega⟩ (by decide)
          refine lv_istore (lv' := [(4, .int x_23), (0, .ref mo), (1, .int p0), (2, .int p1), (3, .int r_6), (5, .int L43l5)]) hx hb dX12_cart_76 hl (by decide) rfl (fun ls hl => ?_)
          obtain ⟨x_24, ex_24⟩ : ∃ y : Int32, y = L43l5 + 1 := ⟨_, rfl⟩
          have zx_24 : x_24.toInt = L43l5.toInt + 1 := by rw [ex_24]; exact z_add rfl rfl (by omega) (by omega)
          refine lv_iinc (v := x_24) (lv' := [(5, .int x_24), (4, .int x_23), (0, .ref mo), (1, .int p0), (2, .int p1), (3, .int r_6)]) hx hb dX12_cart_78 hl (k := 5) rfl (by rw [ex_24]; rfl) (by decide) rfl (fun ls hl => ?_)
          refine lv_goto (tgt := 43) hx hb dX12_cart_81 (by decide) ?_
          exact ih_17 _ _ _ _ (by omega) ⟨x_23, x_24, rfl, (show 0 ≤ x_23.toInt ∧ x_23.toInt ≤ 1023 from by omega), (show 0 ≤ x_24.toInt ∧ x_24.toInt ≤ 6 from by omega), hP.sub (ws' := [(m16, .inl (k 0, 5, .inl f16)), (mo, .inr (12, [.int 0, .ref m1, .ref m2, .ref m3, .ref m4, .ref m5, .int v6, .int v7, .int v8, .int v9, .int v10, .long v11, .int v12, .int v13, .int v14, .int v15, .ref m16, .ref m17, .ref m18, .ref m19, .ref m20, .ref m21, .ref m22, .ref m23, .int v24, .ref m25, .ref m26, .ref m27, .ref m28, .ref m29, .int v30, .ref m31, .ref m32, .ref m33, .int v34, .int v35, .int v36, .ref m37, .ref m38, .ref m39, .ref m40, .long v41])), (m17, .inl (k 0, 30, .inl f17)), (m20, .inl (k 0, 120, .inl f20)), (m37, .inl (k 0, 6, .inl o_7)), (m38, .inl (k 0, 6, .inl o_8))]) [0, 1, 2, 3, 4, 5] rfl, hD.sub (ws' := [(m16, .inl (k 0, 5, .inl f16)), (mo, .inr (12, [.int 0, .ref m1, .ref m2, .ref m3, .ref m4, .ref m5, .int v6, .int v7, .int v8, .int v9, .int v10, .long v11, .int v12, .int v13, .int v14, .int v15, .ref m16, .ref m17, .ref m18, .ref m19, .ref m20, .ref m21, .ref m22, .ref m23, .int v24, .ref m25, .ref m26, .ref m27, .ref m28, .ref m29, .int v30, .ref m31, .ref m32, .ref m33, .int v34, .int v35, .int v36, .ref m37, .ref m38, .ref m39, .ref m40, .long v41])), (m17, .inl (k 0, 30, .inl f17)), (m20, .inl (k 0, 120, .inl f20)), (m37, .inl (k 0, 6, .inl o_7)), (m38, .inl (k 0, 6, .inl o_8))]) [0, 1, 2, 3, 4, 5] (by decide +kernel) rfl, hS, lv_sub hl [2, 3, 4, 5, 1, 0] rfl⟩
        · skip
          have zh_22 : x_21.toInt = p1.toInt := z_eq h_22
          refine lv_iconst (v := 1) hx hb dX12_cart_67 (by decide) ?_
          refine lv_iload hx hb dX12_cart_68 (lv_at hl 5 rfl) ?_
          refine lv_ishl hx hb dX12_cart_70 ?_
          refine lv_topi (fun x_25 ex_25 => ?_)
          have zx_25 : 1 ≤ x_25.toInt ∧ x_25.toInt ≤ 32 := by rw [ex_25]; exact z_shl1 5 32 rfl (by decide) (by omega) (by omega)
          refine lv_goto (tgt := 75) hx hb dX12_cart_71 (by decide) ?_
          refine lv_ior hx hb dX12_cart_75 ?_
          refine lv_topi (fun x_26 ex_26 => ?_)
          have zx_26 : 0 ≤ x_26.toInt ∧ x_26.toInt < 1024 := by rw [ex_26]; exact z_or 10 1024 rfl (by decide) ⟨by omega, by omega⟩ ⟨by omega, by omega⟩
          refine lv_istore (lv' := [(4, .int x_26), (0, .ref mo), (1, .int p0), (2, .int p1), (3, .int r_6), (5, .int L43l5)]) hx hb dX12_cart_76 hl (by decide) rfl (fun ls hl => ?_)
          obtain ⟨x_27, ex_27⟩ : ∃ y : Int32, y = L43l5 + 1 := ⟨_, rfl⟩
          have zx_27 : x_27.toInt = L43l5.toInt + 1 := by rw [ex_27]; exact z_add rfl rfl (by omega) (by omega)
          refine lv_iinc (v := x_27) (lv' := [(5, .int x_27), (4, .int x_26), (0, .ref mo), (1, .int p0), (2, .int p1), (3, .int r_6)]) hx hb dX12_cart_78 hl (k := 5) rfl (by rw [ex_27]; rfl) (by decide) rfl (fun ls hl => ?_)
          refine lv_goto (tgt := 43) hx hb dX12_cart_81 (by decide) ?_
          exact ih_17 _ _ _ _ (by omega) ⟨x_26, x_27, rfl, (show 0 ≤ x_26.toInt ∧ x_26.toInt ≤ 1023 from by omega), (show 0 ≤ x_27.toInt ∧ x_27.toInt ≤ 6 from by omega), hP.sub (ws' := [(m16, .inl (k 0, 5, .inl f16)), (mo, .inr (12, [.int 0, .ref m1, .ref m2, .ref m3, .ref m4, .ref m5, .int v6, .int v7, .int v8, .int v9, .int v10, .long v11, .int v12, .int v13, .int v14, .int v15, .ref m16, .ref m17, .ref m18, .ref m19, .ref m20, .ref m21, .ref m22, .ref m23, .int v24, .ref m25, .ref m26, .ref m27, .ref m28, .ref m29, .int v30, .ref m31, .ref m32, .ref m33, .int v34, .int v35, .int v36, .ref m37, .ref m38, .ref m39, .ref m40, .long v41])), (m17, .inl (k 0, 30, .inl f17)), (m20, .inl (k 0, 120, .inl f20)), (m37, .inl (k 0, 6, .inl o_7)), (m38, .inl (k 0, 6, .inl o_8))]) [0, 1, 2, 3, 4, 5] rfl, hD.sub (ws' := [(m16, .inl (k 0, 5, .inl f16)), (mo, .inr (12, [.int 0, .ref m1, .ref m2, .ref m3, .ref m4, .ref m5, .int v6, .int v7, .int v8, .int v9, .int v10, .long v11, .int v12, .int v13, .int v14, .int v15, .ref m16, .ref m17, .ref m18, .ref m19, .ref m20, .ref m21, .ref m22, .ref m23, .int v24, .ref m25, .ref m26, .ref m27, .ref m28, .ref m29, .int v30, .ref m31, .ref m32, .ref m33, .int v34, .int v35, .int v36, .ref m37, .ref m38, .ref m39, .ref m40, .long v41])), (m17, .inl (k 0, 30, .inl f17)), (m20, .inl (k 0, 120, .inl f20)), (m37, .inl (k 0, 6, .inl o_7)), (m38, .inl (k 0, 6, .inl o_8))]) [0, 1, 2, 3, 4, 5] (by decide +kernel) rfl, hS, lv_sub hl [2, 3, 4, 5, 1, 0] rfl⟩
    · skip
      have zh_16 : r_12.toInt = 0 := z_eq h_16
      refine lv_iconst (v := (-1)) hx hb dX12_cart_35 (by decide) ?_
      obtain ⟨hP9, hD9⟩ := sub2 hP hD (ws' := [(mo, .inr (12, [.int 0, .ref m1, .ref m2, .ref m3, .ref m4, .ref m5, .int v6, .int v7, .int v8, .int v9, .int v10, .long v11, .int v12, .int v13, .int v14, .int v15, .ref m16, .ref m17, .ref m18, .ref m19, .ref m20, .ref m21, .ref m22, .ref m23, .int v24, .ref m25, .ref m26, .ref m27, .ref m28, .ref m29, .int v30, .ref m31, .ref m32, .ref m33, .int v34, .int v35, .int v36, .ref m37, .ref m38, .ref m39, .ref m40, .long v41])), (m16, .inl (k 0, 5, .inl f16)), (m17, .inl (k 0, 30, .inl f17)), (m20, .inl (k 0, 120, .inl f20)), (m37, .inl (k 0, 6, .inl o_7)), (m38, .inl (k 0, 6, .inl o_8))]) [1, 0, 2, 3, 4, 5] (by decide +kernel) rfl
      exact W.iret (v := (-1)) hx hb hr (fun tZ ht hW => ⟨⟨(-1), (0, o_7, o_8), rfl, ⟨(show (-2) ≤ (-1) ∧ (-1) ≤ 1023 from by omega), (show 0 ≤ 0 ∧ 0 ≤ 0 from by omega)⟩, by rw [ht]; exact hP9, va_K.moved hW.alike hK, hD9⟩, hS.F ht⟩) hS.2.2 dX12_cart_36
  · skip
    have zh_5 : r_1.toInt = 0 := z_eq h_5
    refine lv_bipush (v := (-2)) hx hb dX12_cart_13 (by decide) ?_
    obtain ⟨hP9, hD9⟩ := sub2 hP hD (ws' := [(mo, .inr (12, [.int 0, .ref m1, .ref m2, .ref m3, .ref m4, .ref m5, .int v6, .int v7, .int v8, .int v9, .int v10, .long v11, .int v12, .int v13, .int v14, .int v15, .ref m16, .ref m17, .ref m18, .ref m19, .ref m20, .ref m21, .ref m22, .ref m23, .int v24, .ref m25, .ref m26, .ref m27, .ref m28, .ref m29, .int v30, .ref m31, .ref m32, .ref m33, .int v34, .int v35, .int v36, .ref m37, .ref m38, .ref m39, .ref m40, .long v41])), (m16, .inl (k 0, 5, .inl f16)), (m17, .inl (k 0, 30, .inl f17)), (m20, .inl (k 0, 120, .inl f20)), (m37, .inl (k 0, 6, .inl f37)), (m38, .inl (k 0, 6, .inl f38))]) [4, 5, 0, 1, 2, 3] (by decide +kernel) rfl
    exact W.iret (v := (-2)) hx hb hr (fun tZ ht hW => ⟨⟨(-2), (0, f37, f38), rfl, ⟨(show (-2) ≤ (-2) ∧ (-2) ≤ 1023 from by omega), (show 0 ≤ 0 ∧ 0 ≤ 0 from by omega)⟩, by rw [ht]; exact hP9, va_K.moved hW.alike hK, hD9⟩, hS.F ht⟩) hS.2.2 dX12_cart_15
set_option maxHeartbeats 4000000 in
set_option maxRecDepth 100000 in
theorem c_X12_winner (l : Launch) (D : va_G) (k : Nat → ClassId) (mo : Nat) (v0 : Int32) (m1 : Nat) (m2 : Nat) (m3 : Nat) (m4 : Nat) (m5 : Nat) (v6 : Int32) (v7 : Int32) (v8 : Int32) (v9 : Int32) (v10 : Int32) (v11 : Int64) (v12 : Int32) (v13 : Int32) (v14 : Int32) (v15 : Int32) (m16 : Nat) (m17 : Nat) (m18 : Nat) (m19 : Nat) (m20 : Nat) (m21 : Nat) (m22 : Nat) (m23 : Nat) (v24 : Int32) (m25 : Nat) (m26 : Nat) (m27 : Nat) (m28 : Nat) (m29 : Nat) (v30 : Int32) (m31 : Nat) (m32 : Nat) (m33 : Nat) (v34 : Int32) (v35 : Int32) (v36 : Int32) (m37 : Nat) (m38 : Nat) (m39 : Nat) (m40 : Nat) (v41 : Int64) (f17 : Nat → Int32) (f20 : Nat → Int32) (sz : Nat) (h_v6 : 0 ≤ v6.toInt ∧ v6.toInt ≤ 1000) (h_v24 : 0 ≤ v24.toInt ∧ v24.toInt ≤ 1023) (hp_f17_0 : PR 30 6 0 0 8 f17) (hp_f17_1 : PR 30 6 1 0 10 f17) (hp_f17_2 : PR 30 6 2 0 4 f17) (hp_f17_3 : PR 30 6 3 0 6 f17) (hp_f17_4 : PR 30 6 4 0 2 f17) (hp_f17_5 : PR 30 6 5 0 40 f17) (hp_f20_0 : PR 120 4 0 0 7 f20) : Met l yX12_winner (ww yX12_winner cX12_winner 3 (some .int)) ({ frames := 0, cells := 0, slots := 0, locals := 0 }) (Pre0 D k [(mo, .inr (12, [.int v0, .ref m1, .ref m2, .ref m3, .ref m4, .ref m5, .int v6, .int v7, .int v8, .int v9, .int v10, .long v11, .int v12, .int v13, .int v14, .int v15, .ref m16, .ref m17, .ref m18, .ref m19, .ref m20, .ref m21, .ref m22, .ref m23, .int v24, .ref m25, .ref m26, .ref m27, .ref m28, .ref m29, .int v30, .ref m31, .ref m32, .ref m33, .int v34, .int v35, .int v36, .ref m37, .ref m38, .ref m39, .ref m40, .long v41])), (m17, .inl (k 0, 30, .inl f17)), (m20, .inl (k 0, 120, .inl f20))] sz [.ref mo]) (va_Qi (fun (r : Int32) (_ : Unit) => ((-1) ≤ r.toInt ∧ r.toInt ≤ 5)) (fun (_ : Unit) tZ => Bw D k (va_A [(mo, .inr (12, [.int v0, .ref m1, .ref m2, .ref m3, .ref m4, .ref m5, .int v6, .int v7, .int v8, .int v9, .int v10, .long v11, .int v12, .int v13, .int v14, .int v15, .ref m16, .ref m17, .ref m18, .ref m19, .ref m20, .ref m21, .ref m22, .ref m23, .int v24, .ref m25, .ref m26, .ref m27, .ref m28, .ref m29, .int v30, .ref m31, .ref m32, .ref m33, .int v34, .int v35, .int v36, .ref m37, .ref m38, .ref m39, .ref m40, .long v41])), (m17, .inl (k 0, 30, .inl f17)), (m20, .inl (k 0, 120, .inl f20))] sz) [(mo, .inr (12, [.int v0, .ref m1, .ref m2, .ref m3, .ref m4, .ref m5, .int v6, .int v7, .int v8, .int v9, .int v10, .long v11, .int v12, .int v13, .int v14, .int v15, .ref m16, .ref m17, .ref m18, .ref m19, .ref m20, .ref m21, .ref m22, .ref m23, .int v24, .ref m25, .ref m26, .ref m27, .ref m28, .ref m29, .int v30, .ref m31, .ref m32, .ref m33, .int v34, .int v35, .int v36, .ref m37, .ref m38, .ref m39, .ref m40, .long v41])), (m17, .inl (k 0, 30, .inl f17)), (m20, .inl (k 0, 120, .inl f20))] tZ) (va_A [(mo, .inr (12, [.int v0, .ref m1, .ref m2, .ref m3, .ref m4, .ref m5, .int v6, .int v7, .int v8, .int v9, .int v10, .long v11, .int v12, .int v13, .int v14, .int v15, .ref m16, .ref m17, .ref m18, .ref m19, .ref m20, .ref m21, .ref m22, .ref m23, .int v24, .ref m25, .ref m26, .ref m27, .ref m28, .ref m29, .int v30, .ref m31, .ref m32, .ref m33, .int v34, .int v35, .int v36, .ref m37, .ref m38, .ref m39, .ref m40, .long v41])), (m17, .inl (k 0, 30, .inl f17)), (m20, .inl (k 0, 120, .inl f20))] sz)) 0 0 (va_A [(mo, .inr (12, [.int v0, .ref m1, .ref m2, .ref m3, .ref m4, .ref m5, .int v6, .int v7, .int v8, .int v9, .int v10, .long v11, .int v12, .int v13, .int v14, .int v15, .ref m16, .ref m17, .ref m18, .ref m19, .ref m20, .ref m21, .ref m22, .ref m23, .int v24, .ref m25, .ref m26, .ref m27, .ref m28, .ref m29, .int v30, .ref m31, .ref m32, .ref m33, .int v34, .int v35, .int v36, .ref m37, .ref m38, .ref m39, .ref m40, .long v41])), (m17, .inl (k 0, 30, .inl f17)), (m20, .inl (k 0, 120, .inl f20))] sz) := by
  refine Met.ofW (cc := cX12_winner) (maxL := 3) (ret := (some .int)) (by decide +kernel) rfl ?_
  intro p e s m args below meth c s₁ B hml hv
  obtain ⟨rfl, hsz, hP, hK, hD0, hN⟩ := hv
  have hx := B.exec
  have hb := B.bytes
  have hr := B.returns
  have hts : ∀ w ∈ TT, w.before _ s = true := fun w h => atoms_spec (ws := ww yX12_winner cX12_winner 3 (some .int)) B.pre w (List.mem_cons_of_mem _ h)
  have hown : s.vm.findClass RX12 = some m.cls := findClass_of_methodNamed B.named
  have hlocks := B.notSynchronized
  subst hsz
  have hD := hD0.self (sz := s.heap.size)
  generalize hAe : va_A [(mo, .inr (12, [.int v0, .ref m1, .ref m2, .ref m3, .ref m4, .ref m5, .int v6, .int v7, .int v8, .int v9, .int v10, .long v11, .int v12, .int v13, .int v14, .int v15, .ref m16, .ref m17, .ref m18, .ref m19, .ref m20, .ref m21, .ref m22, .ref m23, .int v24, .ref m25, .ref m26, .ref m27, .ref m28, .ref m29, .int v30, .ref m31, .ref m32, .ref m33, .int v34, .int v35, .int v36, .ref m37, .ref m38, .ref m39, .ref m40, .long v41])), (m17, .inl (k 0, 30, .inl f17)), (m20, .inl (k 0, 120, .inl f20))] s.heap.size = A at hD ⊢
  have hA : ∀ q : Nat, s.heap.size ≤ q → A q := fun q h => by rw [← hAe]; exact Or.inr h
  have hS : va_S A s.heap s.heap [] := va_S.rf
  have hl := lv_entry ([.ref mo]) (n := 3) (Nat.le_of_ble_eq_true rfl)
  rw [lg_entry_eq]
  generalize (lg_sl ([.ref mo]) ++ List.replicate (3 - (lg_sl ([.ref mo])).length) Slot.unset).toArray = ls at hl ⊢
  have hl : lv_has ls 3 [(0, .ref mo)] := hl
  refine lv_iconst (v := (-1)) hx hb dX12_winner_0 (by decide) ?_
  refine lv_istore_n (lv' := [(1, .int (-1)), (0, .ref mo)]) hx hb dX12_winner_1 rfl hl (by decide) rfl (fun ls hl => ?_)
  refine lv_iconst (v := 0) hx hb dX12_winner_2 (by decide) ?_
  refine lv_istore_n (lv' := [(2, .int 0), (1, .int (-1)), (0, .ref mo)]) hx hb dX12_winner_3 rfl hl (by decide) rfl (fun ls hl => ?_)
  refine loop_r (Wg := fun H locs ls => W p l e _ s m _ below meth c H locs _ _ _ (F0 m 4 ls [])) (fun n9 H locs ls => ∃ (L4l1 : Int32) (L4l2 : Int32), n9 = (6 - L4l2.toInt).toNat ∧ ((-1) ≤ L4l1.toInt ∧ L4l1.toInt ≤ 5) ∧ (0 ≤ L4l2.toInt ∧ L4l2.toInt ≤ 6) ∧ va_P D vwCl [(mo, .inr (12, [.int v0, .ref m1, .ref m2, .ref m3, .ref m4, .ref m5, .int v6, .int v7, .int v8, .int v9, .int v10, .long v11, .int v12, .int v13, .int v14, .int v15, .ref m16, .ref m17, .ref m18, .ref m19, .ref m20, .ref m21, .ref m22, .ref m23, .int v24, .ref m25, .ref m26, .ref m27, .ref m28, .ref m29, .int v30, .ref m31, .ref m32, .ref m33, .int v34, .int v35, .int v36, .ref m37, .ref m38, .ref m39, .ref m40, .long v41])), (m17, .inl (k 0, 30, .inl f17)), (m20, .inl (k 0, 120, .inl f20))] H ∧ va_D A [(mo, .inr (12, [.int v0, .ref m1, .ref m2, .ref m3, .ref m4, .ref m5, .int v6, .int v7, .int v8, .int v9, .int v10, .long v11, .int v12, .int v13, .int v14, .int v15, .ref m16, .ref m17, .ref m18, .ref m19, .ref m20, .ref m21, .ref m22, .ref m23, .int v24, .ref m25, .ref m26, .ref m27, .ref m28, .ref m29, .int v30, .ref m31, .ref m32, .ref m33, .int v34, .int v35, .int v36, .ref m37, .ref m38, .ref m39, .ref m40, .long v41])), (m17, .inl (k 0, 30, .inl f17)), (m20, .inl (k 0, 120, .inl f20))] ∧ va_S A s.heap H locs ∧ lv_has ls 3 [(0, .ref mo), (1, .int L4l1), (2, .int L4l2)]) (fun n9 H locs ls hI ih_1 => ?_) _ _ _ _ ⟨(-1), 0, rfl, (show (-1) ≤ (-1) ∧ (-1) ≤ 5 from by omega), (show 0 ≤ 0 ∧ 0 ≤ 6 from by omega), hP.sub (ws' := [(mo, .inr (12, [.int v0, .ref m1, .ref m2, .ref m3, .ref m4, .ref m5, .int v6, .int v7, .int v8, .int v9, .int v10, .long v11, .int v12, .int v13, .int v14, .int v15, .ref m16, .ref m17, .ref m18, .ref m19, .ref m20, .ref m21, .ref m22, .ref m23, .int v24, .ref m25, .ref m26, .ref m27, .ref m28, .ref m29, .int v30, .ref m31, .ref m32, .ref m33, .int v34, .int v35, .int v36, .ref m37, .ref m38, .ref m39, .ref m40, .long v41])), (m17, .inl (k 0, 30, .inl f17)), (m20, .inl (k 0, 120, .inl f20))]) [0, 1, 2] rfl, hD.sub (ws' := [(mo, .inr (12, [.int v0, .ref m1, .ref m2, .ref m3, .ref m4, .ref m5, .int v6, .int v7, .int v8, .int v9, .int v10, .long v11, .int v12, .int v13, .int v14, .int v15, .ref m16, .ref m17, .ref m18, .ref m19, .ref m20, .ref m21, .ref m22, .ref m23, .int v24, .ref m25, .ref m26, .ref m27, .ref m28, .ref m29, .int v30, .ref m31, .ref m32, .ref m33, .int v34, .int v35, .int v36, .ref m37, .ref m38, .ref m39, .ref m40, .long v41])), (m17, .inl (k 0, 30, .inl f17)), (m20, .inl (k 0, 120, .inl f20))]) [0, 1, 2] (by decide +kernel) rfl, hS, lv_sub hl [2, 1, 0] rfl⟩
  clear hP hD hS hl
  obtain ⟨L4l1, L4l2, en_2, zL4l1, zL4l2, hP, hD, hS, hl⟩ := hI
  refine lv_iload_n hx hb dX12_winner_4 rfl (lv_at hl 2 rfl) ?_
  refine lv_aload_n hx hb dX12_winner_5 rfl (lv_at hl 0 rfl) ?_
  refine va_get (D := D) (ci := 12) (v := .ref m17) (C := RX12) (T := TX12) (N := 42) hx hb hts iT_X12 hown hK hP 0 rfl rfl 17 (by decide) (hts _ tw_6_70) (fun _ h9 => h9) rfl dX12_winner_6 ?_
  refine lv_iconst (v := 3) hx hb dX12_winner_9 (by decide) ?_
  refine va_iald hx hb hK hP 1 0 rfl rfl (z_in (by decide) (by decide)) dX12_winner_10 ?_
  refine lv_topi (fun x_3 ex_3 => ?_)
  have zx_3r3 : 0 ≤ x_3.toInt ∧ x_3.toInt ≤ 6 := by rw [ex_3]; exact PR.ld hp_f17_3 (by decide) (by decide) (by decide)
  refine lv_icmp_ge (tgt := 50) hx hb dX12_winner_11 (by decide) (fun h_4 => ?_) (fun h_4 => ?_)
  · skip
    have zh_4 : x_3.toInt ≤ L4l2.toInt := z_le h_4
    refine lv_iload_n hx hb dX12_winner_50 rfl (lv_at hl 1 rfl) ?_
    obtain ⟨hP9, hD9⟩ := sub2 hP hD (ws' := [(mo, .inr (12, [.int v0, .ref m1, .ref m2, .ref m3, .ref m4, .ref m5, .int v6, .int v7, .int v8, .int v9, .int v10, .long v11, .int v12, .int v13, .int v14, .int v15, .ref m16, .ref m17, .ref m18, .ref m19, .ref m20, .ref m21, .ref m22, .ref m23, .int v24, .ref m25, .ref m26, .ref m27, .ref m28, .ref m29, .int v30, .ref m31, .ref m32, .ref m33, .int v34, .int v35, .int v36, .ref m37, .ref m38, .ref m39, .ref m40, .long v41])), (m17, .inl (k 0, 30, .inl f17)), (m20, .inl (k 0, 120, .inl f20))]) [0, 1, 2] (by decide +kernel) rfl
    exact W.iret (v := L4l1) hx hb hr (fun tZ ht hW => ⟨⟨L4l1, (), rfl, (show (-1) ≤ L4l1.toInt ∧ L4l1.toInt ≤ 5 from by omega), by rw [ht]; exact hP9, va_K.moved hW.alike hK, hD9⟩, hS.F ht⟩) hS.2.2 dX12_winner_51
  · skip
    have zh_4 : L4l2.toInt < x_3.toInt := z_nle h_4
    refine lv_iload_n hx hb dX12_winner_14 rfl (lv_at hl 1 rfl) ?_
    refine lv_iconst (v := (-1)) hx hb dX12_winner_15 (by decide) ?_
    refine lv_icmp_eq (tgt := 42) hx hb dX12_winner_16 (by decide) (fun h_5 => ?_) (fun h_5 => ?_)
    · skip
      have zh_5 : L4l1.toInt = (-1) := z_eq h_5
      refine lv_iload_n hx hb dX12_winner_42 rfl (lv_at hl 2 rfl) ?_
      refine lv_istore_n (lv' := [(1, .int L4l2), (0, .ref mo), (2, .int L4l2)]) hx hb dX12_winner_43 rfl hl (by decide) rfl (fun ls hl => ?_)
      obtain ⟨x_6, ex_6⟩ : ∃ y : Int32, y = L4l2 + 1 := ⟨_, rfl⟩
      have zx_6 : x_6.toInt = L4l2.toInt + 1 := by rw [ex_6]; exact z_add rfl rfl (by omega) (by omega)
      refine lv_iinc (v := x_6) (lv' := [(2, .int x_6), (1, .int L4l2), (0, .ref mo)]) hx hb dX12_winner_44 hl (k := 2) rfl (by rw [ex_6]; rfl) (by decide) rfl (fun ls hl => ?_)
      refine lv_goto (tgt := 4) hx hb dX12_winner_47 (by decide) ?_
      exact ih_1 _ _ _ _ (by omega) ⟨L4l2, x_6, rfl, (show (-1) ≤ L4l2.toInt ∧ L4l2.toInt ≤ 5 from by omega), (show 0 ≤ x_6.toInt ∧ x_6.toInt ≤ 6 from by omega), hP.sub (ws' := [(mo, .inr (12, [.int v0, .ref m1, .ref m2, .ref m3, .ref m4, .ref m5, .int v6, .int v7, .int v8, .int v9, .int v10, .long v11, .int v12, .int v13, .int v14, .int v15, .ref m16, .ref m17, .ref m18, .ref m19, .ref m20, .ref m21, .ref m22, .ref m23, .int v24, .ref m25, .ref m26, .ref m27, .ref m28, .ref m29, .int v30, .ref m31, .ref m32, .ref m33, .int v34, .int v35, .int v36, .ref m37, .ref m38, .ref m39, .ref m40, .long v41])), (m17, .inl (k 0, 30, .inl f17)), (m20, .inl (k 0, 120, .inl f20))]) [0, 1, 2] rfl, hD.sub (ws' := [(mo, .inr (12, [.int v0, .ref m1, .ref m2, .ref m3, .ref m4, .ref m5, .int v6, .int v7, .int v8, .int v9, .int v10, .long v11, .int v12, .int v13, .int v14, .int v15, .ref m16, .ref m17, .ref m18, .ref m19, .ref m20, .ref m21, .ref m22, .ref m23, .int v24, .ref m25, .ref m26, .ref m27, .ref m28, .ref m29, .int v30, .ref m31, .ref m32, .ref m33, .int v34, .int v35, .int v36, .ref m37, .ref m38, .ref m39, .ref m40, .long v41])), (m17, .inl (k 0, 30, .inl f17)), (m20, .inl (k 0, 120, .inl f20))]) [0, 1, 2] (by decide +kernel) rfl, hS, lv_sub hl [2, 1, 0] rfl⟩
    · skip
      have zh_5 : ¬ L4l1.toInt = (-1) := z_ne h_5
      refine lv_aload_n hx hb dX12_winner_19 rfl (lv_at hl 0 rfl) ?_
      refine va_get (D := D) (ci := 12) (v := .ref m20) (C := RX12) (T := TX12) (N := 42) hx hb hts iT_X12 hown hK hP 0 rfl rfl 20 (by decide) (hts _ tw_6_73) (fun _ h9 => h9) rfl dX12_winner_20 ?_
      refine lv_iconst (v := 4) hx hb dX12_winner_23 (by decide) ?_
      refine lv_iload_n hx hb dX12_winner_24 rfl (lv_at hl 2 rfl) ?_
      refine lv_imul hx hb dX12_winner_25 ?_
      refine lv_topi (fun x_7 ex_7 => ?_)
      have zx_7 : x_7.toInt = 4 * L4l2.toInt := by rw [ex_7]; exact z_mul rfl rfl (by omega) (by omega)
      refine lv_iconst (v := 2) hx hb dX12_winner_26 (by decide) ?_
      refine lv_iadd hx hb dX12_winner_27 ?_
      refine lv_topi (fun x_8 ex_8 => ?_)
      have zx_8 : x_8.toInt = x_7.toInt + 2 := by rw [ex_8]; exact z_add rfl rfl (by omega) (by omega)
      refine va_iald hx hb hK hP 2 0 rfl rfl (z_in (by omega) (by omega)) dX12_winner_28 ?_
      refine lv_topi (fun x_9 ex_9 => ?_)
      refine lv_aload_n hx hb dX12_winner_29 rfl (lv_at hl 0 rfl) ?_
      refine va_get (D := D) (ci := 12) (v := .ref m20) (C := RX12) (T := TX12) (N := 42) hx hb hts iT_X12 hown hK hP 0 rfl rfl 20 (by decide) (hts _ tw_6_73) (fun _ h9 => h9) rfl dX12_winner_30 ?_
      refine lv_iconst (v := 4) hx hb dX12_winner_33 (by decide) ?_
      refine lv_iload_n hx hb dX12_winner_34 rfl (lv_at hl 1 rfl) ?_
      refine lv_imul hx hb dX12_winner_35 ?_
      refine lv_topi (fun x_10 ex_10 => ?_)
      have zx_10 : x_10.toInt = 4 * L4l1.toInt := by rw [ex_10]; exact z_mul rfl rfl (by omega) (by omega)
      refine lv_iconst (v := 2) hx hb dX12_winner_36 (by decide) ?_
      refine lv_iadd hx hb dX12_winner_37 ?_
      refine lv_topi (fun x_11 ex_11 => ?_)
      have zx_11 : x_11.toInt = x_10.toInt + 2 := by rw [ex_11]; exact z_add rfl rfl (by omega) (by omega)
      refine va_iald hx hb hK hP 2 0 rfl rfl (z_in (by omega) (by omega)) dX12_winner_38 ?_
      refine lv_topi (fun x_12 ex_12 => ?_)
      refine lv_icmp_le (tgt := 44) hx hb dX12_winner_39 (by decide) (fun h_13 => ?_) (fun h_13 => ?_)
      · skip
        have zh_13 : x_9.toInt ≤ x_12.toInt := z_le h_13
        obtain ⟨x_14, ex_14⟩ : ∃ y : Int32, y = L4l2 + 1 := ⟨_, rfl⟩
        have zx_14 : x_14.toInt = L4l2.toInt + 1 := by rw [ex_14]; exact z_add rfl rfl (by omega) (by omega)
        refine lv_iinc (v := x_14) (lv' := [(2, .int x_14), (0, .ref mo), (1, .int L4l1)]) hx hb dX12_winner_44 hl (k := 2) rfl (by rw [ex_14]; rfl) (by decide) rfl (fun ls hl => ?_)
        refine lv_goto (tgt := 4) hx hb dX12_winner_47 (by decide) ?_
        exact ih_1 _ _ _ _ (by omega) ⟨L4l1, x_14, rfl, (show (-1) ≤ L4l1.toInt ∧ L4l1.toInt ≤ 5 from by omega), (show 0 ≤ x_14.toInt ∧ x_14.toInt ≤ 6 from by omega), hP.sub (ws' := [(mo, .inr (12, [.int v0, .ref m1, .ref m2, .ref m3, .ref m4, .ref m5, .int v6, .int v7, .int v8, .int v9, .int v10, .long v11, .int v12, .int v13, .int v14, .int v15, .ref m16, .ref m17, .ref m18, .ref m19, .ref m20, .ref m21, .ref m22, .ref m23, .int v24, .ref m25, .ref m26, .ref m27, .ref m28, .ref m29, .int v30, .ref m31, .ref m32, .ref m33, .int v34, .int v35, .int v36, .ref m37, .ref m38, .ref m39, .ref m40, .long v41])), (m17, .inl (k 0, 30, .inl f17)), (m20, .inl (k 0, 120, .inl f20))]) [0, 1, 2] rfl, hD.sub (ws' := [(mo, .inr (12, [.int v0, .ref m1, .ref m2, .ref m3, .ref m4, .ref m5, .int v6, .int v7, .int v8, .int v9, .int v10, .long v11, .int v12, .int v13, .int v14, .int v15, .ref m16, .ref m17, .ref m18, .ref m19, .ref m20, .ref m21, .ref m22, .ref m23, .int v24, .ref m25, .ref m26, .ref m27, .ref m28, .ref m29, .int v30, .ref m31, .ref m32, .ref m33, .int v34, .int v35, .int v36, .ref m37, .ref m38, .ref m39, .ref m40, .long v41])), (m17, .inl (k 0, 30, .inl f17)), (m20, .inl (k 0, 120, .inl f20))]) [0, 1, 2] (by decide +kernel) rfl, hS, lv_sub hl [1, 2, 0] rfl⟩
      · skip
        have zh_13 : x_12.toInt < x_9.toInt := z_nle h_13
        refine lv_iload_n hx hb dX12_winner_42 rfl (lv_at hl 2 rfl) ?_
        refine lv_istore_n (lv' := [(1, .int L4l2), (0, .ref mo), (2, .int L4l2)]) hx hb dX12_winner_43 rfl hl (by decide) rfl (fun ls hl => ?_)
        obtain ⟨x_15, ex_15⟩ : ∃ y : Int32, y = L4l2 + 1 := ⟨_, rfl⟩
        have zx_15 : x_15.toInt = L4l2.toInt + 1 := by rw [ex_15]; exact z_add rfl rfl (by omega) (by omega)
        refine lv_iinc (v := x_15) (lv' := [(2, .int x_15), (1, .int L4l2), (0, .ref mo)]) hx hb dX12_winner_44 hl (k := 2) rfl (by rw [ex_15]; rfl) (by decide) rfl (fun ls hl => ?_)
        refine lv_goto (tgt := 4) hx hb dX12_winner_47 (by decide) ?_
        exact ih_1 _ _ _ _ (by omega) ⟨L4l2, x_15, rfl, (show (-1) ≤ L4l2.toInt ∧ L4l2.toInt ≤ 5 from by omega), (show 0 ≤ x_15.toInt ∧ x_15.toInt ≤ 6 from by omega), hP.sub (ws' := [(mo, .inr (12, [.int v0, .ref m1, .ref m2, .ref m3, .ref m4, .ref m5, .int v6, .int v7, .int v8, .int v9, .int v10, .long v11, .int v12, .int v13, .int v14, .int v15, .ref m16, .ref m17, .ref m18, .ref m19, .ref m20, .ref m21, .ref m22, .ref m23, .int v24, .ref m25, .ref m26, .ref m27, .ref m28, .ref m29, .int v30, .ref m31, .ref m32, .ref m33, .int v34, .int v35, .int v36, .ref m37, .ref m38, .ref m39, .ref m40, .long v41])), (m17, .inl (k 0, 30, .inl f17)), (m20, .inl (k 0, 120, .inl f20))]) [0, 1, 2] rfl, hD.sub (ws' := [(mo, .inr (12, [.int v0, .ref m1, .ref m2, .ref m3, .ref m4, .ref m5, .int v6, .int v7, .int v8, .int v9, .int v10, .long v11, .int v12, .int v13, .int v14, .int v15, .ref m16, .ref m17, .ref m18, .ref m19, .ref m20, .ref m21, .ref m22, .ref m23, .int v24, .ref m25, .ref m26, .ref m27, .ref m28, .ref m29, .int v30, .ref m31, .ref m32, .ref m33, .int v34, .int v35, .int v36, .ref m37, .ref m38, .ref m39, .ref m40, .long v41])), (m17, .inl (k 0, 30, .inl f17)), (m20, .inl (k 0, 120, .inl f20))]) [0, 1, 2] (by decide +kernel) rfl, hS, lv_sub hl [2, 1, 0] rfl⟩
set_option maxHeartbeats 4000000 in
set_option maxRecDepth 100000 in
theorem c_X12_wins (l : Launch) (D : va_G) (k : Nat → ClassId) (mo : Nat) (v0 : Int32) (m1 : Nat) (m2 : Nat) (m3 : Nat) (m4 : Nat) (m5 : Nat) (v6 : Int32) (v7 : Int32) (v8 : Int32) (v9 : Int32) (v10 : Int32) (v11 : Int64) (v12 : Int32) (v13 : Int32) (v14 : Int32) (v15 : Int32) (m16 : Nat) (m17 : Nat) (m18 : Nat) (m19 : Nat) (m20 : Nat) (m21 : Nat) (m22 : Nat) (m23 : Nat) (v24 : Int32) (m25 : Nat) (m26 : Nat) (m27 : Nat) (m28 : Nat) (m29 : Nat) (v30 : Int32) (m31 : Nat) (m32 : Nat) (m33 : Nat) (v34 : Int32) (v35 : Int32) (v36 : Int32) (m37 : Nat) (m38 : Nat) (m39 : Nat) (m40 : Nat) (v41 : Int64) (f16 : Nat → Int32) (f17 : Nat → Int32) (f20 : Nat → Int32) (sz : Nat) (h_v6 : 0 ≤ v6.toInt ∧ v6.toInt ≤ 1000) (h_v24 : 0 ≤ v24.toInt ∧ v24.toInt ≤ 1023) (hp_f17_0 : PR 30 6 0 0 8 f17) (hp_f17_1 : PR 30 6 1 0 10 f17) (hp_f17_2 : PR 30 6 2 0 4 f17) (hp_f17_3 : PR 30 6 3 0 6 f17) (hp_f17_4 : PR 30 6 4 0 2 f17) (hp_f17_5 : PR 30 6 5 0 40 f17) (hp_f20_0 : PR 120 4 0 0 7 f20) : Met l yX12_wins (ww yX12_wins cX12_wins 1 (some .int)) ({ frames := 1, cells := 0, slots := 0, locals := 22 }) (Pre0 D k [(mo, .inr (12, [.int v0, .ref m1, .ref m2, .ref m3, .ref m4, .ref m5, .int v6, .int v7, .int v8, .int v9, .int v10, .long v11, .int v12, .int v13, .int v14, .int v15, .ref m16, .ref m17, .ref m18, .ref m19, .ref m20, .ref m21, .ref m22, .ref m23, .int v24, .ref m25, .ref m26, .ref m27, .ref m28, .ref m29, .int v30, .ref m31, .ref m32, .ref m33, .int v34, .int v35, .int v36, .ref m37, .ref m38, .ref m39, .ref m40, .long v41])), (m16, .inl (k 0, 5, .inl f16)), (m17, .inl (k 0, 30, .inl f17)), (m20, .inl (k 0, 120, .inl f20))] sz [.ref mo]) (va_Qi (fun (r : Int32) (v0z : Int32) => ((-2) ≤ r.toInt ∧ r.toInt ≤ 5) ∧ (0 ≤ v0z.toInt ∧ v0z.toInt ≤ 0)) (fun (v0z : Int32) tZ => Bw D k (va_A [(mo, .inr (12, [.int v0, .ref m1, .ref m2, .ref m3, .ref m4, .ref m5, .int v6, .int v7, .int v8, .int v9, .int v10, .long v11, .int v12, .int v13, .int v14, .int v15, .ref m16, .ref m17, .ref m18, .ref m19, .ref m20, .ref m21, .ref m22, .ref m23, .int v24, .ref m25, .ref m26, .ref m27, .ref m28, .ref m29, .int v30, .ref m31, .ref m32, .ref m33, .int v34, .int v35, .int v36, .ref m37, .ref m38, .ref m39, .ref m40, .long v41])), (m16, .inl (k 0, 5, .inl f16)), (m17, .inl (k 0, 30, .inl f17)), (m20, .inl (k 0, 120, .inl f20))] sz) [(mo, .inr (12, [.int v0z, .ref m1, .ref m2, .ref m3, .ref m4, .ref m5, .int v6, .int v7, .int v8, .int v9, .int v10, .long v11, .int v12, .int v13, .int v14, .int v15, .ref m16, .ref m17, .ref m18, .ref m19, .ref m20, .ref m21, .ref m22, .ref m23, .int v24, .ref m25, .ref m26, .ref m27, .ref m28, .ref m29, .int v30, .ref m31, .ref m32, .ref m33, .int v34, .int v35, .int v36, .ref m37, .ref m38, .ref m39, .ref m40, .long v41])), (m16, .inl (k 0, 5, .inl f16)), (m17, .inl (k 0, 30, .inl f17)), (m20, .inl (k 0, 120, .inl f20))] tZ) (va_A [(mo, .inr (12, [.int v0, .ref m1, .ref m2, .ref m3, .ref m4, .ref m5, .int v6, .int v7, .int v8, .int v9, .int v10, .long v11, .int v12, .int v13, .int v14, .int v15, .ref m16, .ref m17, .ref m18, .ref m19, .ref m20, .ref m21, .ref m22, .ref m23, .int v24, .ref m25, .ref m26, .ref m27, .ref m28, .ref m29, .int v30, .ref m31, .ref m32, .ref m33, .int v34, .int v35, .int v36, .ref m37, .ref m38, .ref m39, .ref m40, .long v41])), (m16, .inl (k 0, 5, .inl f16)), (m17, .inl (k 0, 30, .inl f17)), (m20, .inl (k 0, 120, .inl f20))] sz)) 0 0 (va_A [(mo, .inr (12, [.int v0, .ref m1, .ref m2, .ref m3, .ref m4, .ref m5, .int v6, .int v7, .int v8, .int v9, .int v10, .long v11, .int v12, .int v13, .int v14, .int v15, .ref m16, .ref m17, .ref m18, .ref m19, .ref m20, .ref m21, .ref m22, .ref m23, .int v24, .ref m25, .ref m26, .ref m27, .ref m28, .ref m29, .int v30, .ref m31, .ref m32, .ref m33, .int v34, .int v35, .int v36, .ref m37, .ref m38, .ref m39, .ref m40, .long v41])), (m16, .inl (k 0, 5, .inl f16)), (m17, .inl (k 0, 30, .inl f17)), (m20, .inl (k 0, 120, .inl f20))] sz) := by
  refine Met.ofW (cc := cX12_wins) (maxL := 1) (ret := (some .int)) (by decide +kernel) rfl ?_
  intro p e s m args below meth c s₁ B hml hv
  obtain ⟨rfl, hsz, hP, hK, hD0, hN⟩ := hv
  have hx := B.exec
  have hb := B.bytes
  have hr := B.returns
  have hts : ∀ w ∈ TT, w.before _ s = true := fun w h => atoms_spec (ws := ww yX12_wins cX12_wins 1 (some .int)) B.pre w (List.mem_cons_of_mem _ h)
  have hown : s.vm.findClass RX12 = some m.cls := findClass_of_methodNamed B.named
  have hlocks := B.notSynchronized
  subst hsz
  have hD := hD0.self (sz := s.heap.size)
  generalize hAe : va_A [(mo, .inr (12, [.int v0, .ref m1, .ref m2, .ref m3, .ref m4, .ref m5, .int v6, .int v7, .int v8, .int v9, .int v10, .long v11, .int v12, .int v13, .int v14, .int v15, .ref m16, .ref m17, .ref m18, .ref m19, .ref m20, .ref m21, .ref m22, .ref m23, .int v24, .ref m25, .ref m26, .ref m27, .ref m28, .ref m29, .int v30, .ref m31, .ref m32, .ref m33, .int v34, .int v35, .int v36, .ref m37, .ref m38, .ref m39, .ref m40, .long v41])), (m16, .inl (k 0, 5, .inl f16)), (m17, .inl (k 0, 30, .inl f17)), (m20, .inl (k 0, 120, .inl f20))] s.heap.size = A at hD ⊢
  have hA : ∀ q : Nat, s.heap.size ≤ q → A q := fun q h => by rw [← hAe]; exact Or.inr h
  have hS : va_S A s.heap s.heap [] := va_S.rf
  have hl := lv_entry ([.ref mo]) (n := 1) (Nat.le_of_ble_eq_true rfl)
  rw [lg_entry_eq]
  generalize (lg_sl ([.ref mo]) ++ List.replicate (1 - (lg_sl ([.ref mo])).length) Slot.unset).toArray = ls at hl ⊢
  have hl : lv_has ls 1 [(0, .ref mo)] := hl
  refine lv_aload_n hx hb dX12_wins_0 rfl (lv_at hl 0 rfl) ?_
  refine lv_iconst (v := 0) hx hb dX12_wins_1 (by decide) ?_
  refine va_put (D := D) (ci := 12) (v := .int 0) (ty := tyX12 0) (C := RX12) (T := TX12) (N := 42) hx hb hts iT_X12 tyX12 tyX12_ok nmX12 hown hK hP hD hS 0 rfl rfl 0 (by decide) (hts _ tw_6_53) (fun _ h9 => h9) rfl (tyX12_ok 0 (by decide)) rfl rfl (Nat.le_of_ble_eq_true rfl) dX12_wins_2 (fun H locs hP hD hS => ?_)
  have hP : va_P D vwCl [(mo, .inr (12, [.int 0, .ref m1, .ref m2, .ref m3, .ref m4, .ref m5, .int v6, .int v7, .int v8, .int v9, .int v10, .long v11, .int v12, .int v13, .int v14, .int v15, .ref m16, .ref m17, .ref m18, .ref m19, .ref m20, .ref m21, .ref m22, .ref m23, .int v24, .ref m25, .ref m26, .ref m27, .ref m28, .ref m29, .int v30, .ref m31, .ref m32, .ref m33, .int v34, .int v35, .int v36, .ref m37, .ref m38, .ref m39, .ref m40, .long v41])), (m16, .inl (k 0, 5, .inl f16)), (m17, .inl (k 0, 30, .inl f17)), (m20, .inl (k 0, 120, .inl f20))] H := hP
  have hD : va_D A [(mo, .inr (12, [.int 0, .ref m1, .ref m2, .ref m3, .ref m4, .ref m5, .int v6, .int v7, .int v8, .int v9, .int v10, .long v11, .int v12, .int v13, .int v14, .int v15, .ref m16, .ref m17, .ref m18, .ref m19, .ref m20, .ref m21, .ref m22, .ref m23, .int v24, .ref m25, .ref m26, .ref m27, .ref m28, .ref m29, .int v30, .ref m31, .ref m32, .ref m33, .int v34, .int v35, .int v36, .ref m37, .ref m38, .ref m39, .ref m40, .long v41])), (m16, .inl (k 0, 5, .inl f16)), (m17, .inl (k 0, 30, .inl f17)), (m20, .inl (k 0, 120, .inl f20))] := hD
  refine lv_aload_n hx hb dX12_wins_5 rfl (lv_at hl 0 rfl) ?_
  obtain ⟨hPc, hDc, hFc⟩ := sub3 hP hD hS hA (ws' := [(mo, .inr (12, [.int 0, .ref m1, .ref m2, .ref m3, .ref m4, .ref m5, .int v6, .int v7, .int v8, .int v9, .int v10, .long v11, .int v12, .int v13, .int v14, .int v15, .ref m16, .ref m17, .ref m18, .ref m19, .ref m20, .ref m21, .ref m22, .ref m23, .int v24, .ref m25, .ref m26, .ref m27, .ref m28, .ref m29, .int v30, .ref m31, .ref m32, .ref m33, .int v34, .int v35, .int v36, .ref m37, .ref m38, .ref m39, .ref m40, .long v41])), (m16, .inl (k 0, 5, .inl f16))]) [0, 1] (by decide +kernel) rfl
  refine va_calli (va_runV (C := RX12) (As := []) (rest := []) ⟨hx, hb, hml, hown, hts⟩ (c_X12_isTown l D k mo 0 m1 m2 m3 m4 m5 v6 v7 v8 v9 v10 v11 v12 v13 v14 v15 m16 m17 m18 m19 m20 m21 m22 m23 v24 m25 m26 m27 m28 m29 v30 m31 m32 m33 v34 v35 v36 m37 m38 m39 m40 v41 f16 H.size (show 0 ≤ v6.toInt ∧ v6.toInt ≤ 1000 from by omega) (show 0 ≤ v24.toInt ∧ v24.toInt ≤ 1023 from by omega)) (cwV 0 hts (gV tw_7_181 tw_7_183 tw_p_71 tw_1_13 tw_7_184) rfl rfl rfl hdV_X12_isTown ⟨Nat.le_of_ble_eq_true rfl, Nat.le_of_ble_eq_true rfl⟩) (cz_V hK hPc hDc hN (ci := 12) (q0 := 0) rfl rfl []) rfl rfl hl.1 rfl (lv_room (Nat.le_of_ble_eq_true rfl)) dX12_wins_6 ⟨Nat.le_of_ble_eq_true rfl, Nat.le_of_ble_eq_true rfl⟩) hS (fun q _ h => hFc q h) hFc (fun r_1 uZ tZ H1 locs ht hvm hw hB hz1 hk1 hS => ?_)
  obtain ⟨hP1, hK1, hD1⟩ := hB
  rw [ht] at hP1
  obtain ⟨hP, hD⟩ := va_join (wr := [(m17, .inl (k 0, 30, .inl f17)), (m20, .inl (k 0, 120, .inl f20))]) (w1 := [(mo, .inr (12, [.int 0, .ref m1, .ref m2, .ref m3, .ref m4, .ref m5, .int v6, .int v7, .int v8, .int v9, .int v10, .long v11, .int v12, .int v13, .int v14, .int v15, .ref m16, .ref m17, .ref m18, .ref m19, .ref m20, .ref m21, .ref m22, .ref m23, .int v24, .ref m25, .ref m26, .ref m27, .ref m28, .ref m29, .int v30, .ref m31, .ref m32, .ref m33, .int v34, .int v35, .int v36, .ref m37, .ref m38, .ref m39, .ref m40, .long v41])), (m16, .inl (k 0, 5, .inl f16))]) hP hD [0, 1] [2, 3] rfl rfl (by decide +kernel) (by decide +kernel) hk1 hFc hP1 hD1
  clear hK1 hP1 hD1 hPc hDc hFc
  clear hk1 hz1 ht hvm
  have hP : va_P D vwCl [(m17, .inl (k 0, 30, .inl f17)), (m20, .inl (k 0, 120, .inl f20)), (mo, .inr (12, [.int 0, .ref m1, .ref m2, .ref m3, .ref m4, .ref m5, .int v6, .int v7, .int v8, .int v9, .int v10, .long v11, .int v12, .int v13, .int v14, .int v15, .ref m16, .ref m17, .ref m18, .ref m19, .ref m20, .ref m21, .ref m22, .ref m23, .int v24, .ref m25, .ref m26, .ref m27, .ref m28, .ref m29, .int v30, .ref m31, .ref m32, .ref m33, .int v34, .int v35, .int v36, .ref m37, .ref m38, .ref m39, .ref m40, .long v41])), (m16, .inl (k 0, 5, .inl f16))] H1 := hP
  have hD : va_D A [(m17, .inl (k 0, 30, .inl f17)), (m20, .inl (k 0, 120, .inl f20)), (mo, .inr (12, [.int 0, .ref m1, .ref m2, .ref m3, .ref m4, .ref m5, .int v6, .int v7, .int v8, .int v9, .int v10, .long v11, .int v12, .int v13, .int v14, .int v15, .ref m16, .ref m17, .ref m18, .ref m19, .ref m20, .ref m21, .ref m22, .ref m23, .int v24, .ref m25, .ref m26, .ref m27, .ref m28, .ref m29, .int v30, .ref m31, .ref m32, .ref m33, .int v34, .int v35, .int v36, .ref m37, .ref m38, .ref m39, .ref m40, .long v41])), (m16, .inl (k 0, 5, .inl f16))] := hD
  generalize H1 = H at hP hS ⊢
  have hw_2 : (0 ≤ r_1.toInt ∧ r_1.toInt ≤ 1) := hw
  have hw_3 := hw_2
  clear hw
  refine lv_if_eq (tgt := 19) hx hb dX12_wins_9 (by decide) (fun h_4 => ?_) (fun h_4 => ?_)
  · skip
    have zh_4 : r_1.toInt = 0 := z_eq h_4
    refine lv_bipush (v := (-2)) hx hb dX12_wins_19 (by decide) ?_
    obtain ⟨hP9, hD9⟩ := sub2 hP hD (ws' := [(mo, .inr (12, [.int 0, .ref m1, .ref m2, .ref m3, .ref m4, .ref m5, .int v6, .int v7, .int v8, .int v9, .int v10, .long v11, .int v12, .int v13, .int v14, .int v15, .ref m16, .ref m17, .ref m18, .ref m19, .ref m20, .ref m21, .ref m22, .ref m23, .int v24, .ref m25, .ref m26, .ref m27, .ref m28, .ref m29, .int v30, .ref m31, .ref m32, .ref m33, .int v34, .int v35, .int v36, .ref m37, .ref m38, .ref m39, .ref m40, .long v41])), (m16, .inl (k 0, 5, .inl f16)), (m17, .inl (k 0, 30, .inl f17)), (m20, .inl (k 0, 120, .inl f20))]) [2, 3, 0, 1] (by decide +kernel) rfl
    exact W.iret (v := (-2)) hx hb hr (fun tZ ht hW => ⟨⟨(-2), 0, rfl, ⟨(show (-2) ≤ (-2) ∧ (-2) ≤ 5 from by omega), (show 0 ≤ 0 ∧ 0 ≤ 0 from by omega)⟩, by rw [ht]; exact hP9, va_K.moved hW.alike hK, hD9⟩, hS.F ht⟩) hS.2.2 dX12_wins_21
  · skip
    have zh_4 : ¬ r_1.toInt = 0 := z_ne h_4
    refine lv_aload_n hx hb dX12_wins_12 rfl (lv_at hl 0 rfl) ?_
    obtain ⟨hPc, hDc, hFc⟩ := sub3 hP hD hS hA (ws' := [(mo, .inr (12, [.int 0, .ref m1, .ref m2, .ref m3, .ref m4, .ref m5, .int v6, .int v7, .int v8, .int v9, .int v10, .long v11, .int v12, .int v13, .int v14, .int v15, .ref m16, .ref m17, .ref m18, .ref m19, .ref m20, .ref m21, .ref m22, .ref m23, .int v24, .ref m25, .ref m26, .ref m27, .ref m28, .ref m29, .int v30, .ref m31, .ref m32, .ref m33, .int v34, .int v35, .int v36, .ref m37, .ref m38, .ref m39, .ref m40, .long v41])), (m17, .inl (k 0, 30, .inl f17)), (m20, .inl (k 0, 120, .inl f20))]) [2, 0, 1] (by decide +kernel) rfl
    refine va_calli (va_runV (C := RX12) (As := []) (rest := []) ⟨hx, hb, hml, hown, hts⟩ (c_X12_winner l D k mo 0 m1 m2 m3 m4 m5 v6 v7 v8 v9 v10 v11 v12 v13 v14 v15 m16 m17 m18 m19 m20 m21 m22 m23 v24 m25 m26 m27 m28 m29 v30 m31 m32 m33 v34 v35 v36 m37 m38 m39 m40 v41 f17 f20 H.size (show 0 ≤ v6.toInt ∧ v6.toInt ≤ 1000 from by omega) (show 0 ≤ v24.toInt ∧ v24.toInt ≤ 1023 from by omega) hp_f17_0 hp_f17_1 hp_f17_2 hp_f17_3 hp_f17_4 hp_f17_5 hp_f20_0) (cwV 0 hts (gV tw_8_158 tw_8_160 tw_p_91 tw_1_13 tw_8_161) rfl rfl rfl hdV_X12_winner ⟨Nat.le_of_ble_eq_true rfl, Nat.le_of_ble_eq_true rfl⟩) (cz_V hK hPc hDc hN (ci := 12) (q0 := 0) rfl rfl []) rfl rfl hl.1 rfl (lv_room (Nat.le_of_ble_eq_true rfl)) dX12_wins_13 ⟨Nat.le_of_ble_eq_true rfl, Nat.le_of_ble_eq_true rfl⟩) hS (fun q _ h => hFc q h) hFc (fun r_5 uZ tZ H1 locs ht hvm hw hB hz1 hk1 hS => ?_)
    obtain ⟨hP1, hK1, hD1⟩ := hB
    rw [ht] at hP1
    obtain ⟨hP, hD⟩ := va_join (wr := [(m16, .inl (k 0, 5, .inl f16))]) (w1 := [(mo, .inr (12, [.int 0, .ref m1, .ref m2, .ref m3, .ref m4, .ref m5, .int v6, .int v7, .int v8, .int v9, .int v10, .long v11, .int v12, .int v13, .int v14, .int v15, .ref m16, .ref m17, .ref m18, .ref m19, .ref m20, .ref m21, .ref m22, .ref m23, .int v24, .ref m25, .ref m26, .ref m27, .ref m28, .ref m29, .int v30, .ref m31, .ref m32, .ref m33, .int v34, .int v35, .int v36, .ref m37, .ref m38, .ref m39, .ref m40, .long v41])), (m17, .inl (k 0, 30, .inl f17)), (m20, .inl (k 0, 120, .inl f20))]) hP hD [2, 0, 1] [3] rfl rfl (by decide +kernel) (by decide +kernel) hk1 hFc hP1 hD1
    clear hK1 hP1 hD1 hPc hDc hFc
    clear hk1 hz1 ht hvm
    have hP : va_P D vwCl [(m16, .inl (k 0, 5, .inl f16)), (mo, .inr (12, [.int 0, .ref m1, .ref m2, .ref m3, .ref m4, .ref m5, .int v6, .int v7, .int v8, .int v9, .int v10, .long v11, .int v12, .int v13, .int v14, .int v15, .ref m16, .ref m17, .ref m18, .ref m19, .ref m20, .ref m21, .ref m22, .ref m23, .int v24, .ref m25, .ref m26, .ref m27, .ref m28, .ref m29, .int v30, .ref m31, .ref m32, .ref m33, .int v34, .int v35, .int v36, .ref m37, .ref m38, .ref m39, .ref m40, .long v41])), (m17, .inl (k 0, 30, .inl f17)), (m20, .inl (k 0, 120, .inl f20))] H1 := hP
    have hD : va_D A [(m16, .inl (k 0, 5, .inl f16)), (mo, .inr (12, [.int 0, .ref m1, .ref m2, .ref m3, .ref m4, .ref m5, .int v6, .int v7, .int v8, .int v9, .int v10, .long v11, .int v12, .int v13, .int v14, .int v15, .ref m16, .ref m17, .ref m18, .ref m19, .ref m20, .ref m21, .ref m22, .ref m23, .int v24, .ref m25, .ref m26, .ref m27, .ref m28, .ref m29, .int v30, .ref m31, .ref m32, .ref m33, .int v34, .int v35, .int v36, .ref m37, .ref m38, .ref m39, .ref m40, .long v41])), (m17, .inl (k 0, 30, .inl f17)), (m20, .inl (k 0, 120, .inl f20))] := hD
    generalize H1 = H at hP hS ⊢
    have hw_6 : ((-1) ≤ r_5.toInt ∧ r_5.toInt ≤ 5) := hw
    have hw_7 := hw_6
    clear hw
    refine lv_goto (tgt := 21) hx hb dX12_wins_16 (by decide) ?_
    obtain ⟨hP9, hD9⟩ := sub2 hP hD (ws' := [(mo, .inr (12, [.int 0, .ref m1, .ref m2, .ref m3, .ref m4, .ref m5, .int v6, .int v7, .int v8, .int v9, .int v10, .long v11, .int v12, .int v13, .int v14, .int v15, .ref m16, .ref m17, .ref m18, .ref m19, .ref m20, .ref m21, .ref m22, .ref m23, .int v24, .ref m25, .ref m26, .ref m27, .ref m28, .ref m29, .int v30, .ref m31, .ref m32, .ref m33, .int v34, .int v35, .int v36, .ref m37, .ref m38, .ref m39, .ref m40, .long v41])), (m16, .inl (k 0, 5, .inl f16)), (m17, .inl (k 0, 30, .inl f17)), (m20, .inl (k 0, 120, .inl f20))]) [1, 0, 2, 3] (by decide +kernel) rfl
    exact W.iret (v := r_5) hx hb hr (fun tZ ht hW => ⟨⟨r_5, 0, rfl, ⟨(show (-2) ≤ r_5.toInt ∧ r_5.toInt ≤ 5 from by omega), (show 0 ≤ 0 ∧ 0 ≤ 0 from by omega)⟩, by rw [ht]; exact hP9, va_K.moved hW.alike hK, hD9⟩, hS.F ht⟩) hS.2.2 dX12_wins_21
set_option maxHeartbeats 4000000 in
set_option maxRecDepth 100000 in
theorem c_X12_price (l : Launch) (D : va_G) (k : Nat → ClassId) (mo : Nat) (v0 : Int32) (m1 : Nat) (m2 : Nat) (m3 : Nat) (m4 : Nat) (m5 : Nat) (v6 : Int32) (v7 : Int32) (v8 : Int32) (v9 : Int32) (v10 : Int32) (v11 : Int64) (v12 : Int32) (v13 : Int32) (v14 : Int32) (v15 : Int32) (m16 : Nat) (m17 : Nat) (m18 : Nat) (m19 : Nat) (m20 : Nat) (m21 : Nat) (m22 : Nat) (m23 : Nat) (v24 : Int32) (m25 : Nat) (m26 : Nat) (m27 : Nat) (m28 : Nat) (m29 : Nat) (v30 : Int32) (m31 : Nat) (m32 : Nat) (m33 : Nat) (v34 : Int32) (v35 : Int32) (v36 : Int32) (m37 : Nat) (m38 : Nat) (m39 : Nat) (m40 : Nat) (v41 : Int64) (f16 : Nat → Int32) (f17 : Nat → Int32) (f20 : Nat → Int32) (sz : Nat) (h_v6 : 0 ≤ v6.toInt ∧ v6.toInt ≤ 1000) (h_v24 : 0 ≤ v24.toInt ∧ v24.toInt ≤ 1023) (hp_f17_0 : PR 30 6 0 0 8 f17) (hp_f17_1 : PR 30 6 1 0 10 f17) (hp_f17_2 : PR 30 6 2 0 4 f17) (hp_f17_3 : PR 30 6 3 0 6 f17) (hp_f17_4 : PR 30 6 4 0 2 f17) (hp_f17_5 : PR 30 6 5 0 40 f17) (hp_f20_0 : PR 120 4 0 0 7 f20) : Met l yX12_price (ww yX12_price cX12_price 4 (some .int)) ({ frames := 1, cells := 0, slots := 0, locals := 22 }) (Pre0 D k [(mo, .inr (12, [.int v0, .ref m1, .ref m2, .ref m3, .ref m4, .ref m5, .int v6, .int v7, .int v8, .int v9, .int v10, .long v11, .int v12, .int v13, .int v14, .int v15, .ref m16, .ref m17, .ref m18, .ref m19, .ref m20, .ref m21, .ref m22, .ref m23, .int v24, .ref m25, .ref m26, .ref m27, .ref m28, .ref m29, .int v30, .ref m31, .ref m32, .ref m33, .int v34, .int v35, .int v36, .ref m37, .ref m38, .ref m39, .ref m40, .long v41])), (m16, .inl (k 0, 5, .inl f16)), (m17, .inl (k 0, 30, .inl f17)), (m20, .inl (k 0, 120, .inl f20))] sz [.ref mo]) (va_Qi (fun (r : Int32) (v0z : Int32) => ((-2) ≤ r.toInt ∧ r.toInt ≤ 2147483647) ∧ (0 ≤ v0z.toInt ∧ v0z.toInt ≤ 0)) (fun (v0z : Int32) tZ => Bw D k (va_A [(mo, .inr (12, [.int v0, .ref m1, .ref m2, .ref m3, .ref m4, .ref m5, .int v6, .int v7, .int v8, .int v9, .int v10, .long v11, .int v12, .int v13, .int v14, .int v15, .ref m16, .ref m17, .ref m18, .ref m19, .ref m20, .ref m21, .ref m22, .ref m23, .int v24, .ref m25, .ref m26, .ref m27, .ref m28, .ref m29, .int v30, .ref m31, .ref m32, .ref m33, .int v34, .int v35, .int v36, .ref m37, .ref m38, .ref m39, .ref m40, .long v41])), (m16, .inl (k 0, 5, .inl f16)), (m17, .inl (k 0, 30, .inl f17)), (m20, .inl (k 0, 120, .inl f20))] sz) [(mo, .inr (12, [.int v0z, .ref m1, .ref m2, .ref m3, .ref m4, .ref m5, .int v6, .int v7, .int v8, .int v9, .int v10, .long v11, .int v12, .int v13, .int v14, .int v15, .ref m16, .ref m17, .ref m18, .ref m19, .ref m20, .ref m21, .ref m22, .ref m23, .int v24, .ref m25, .ref m26, .ref m27, .ref m28, .ref m29, .int v30, .ref m31, .ref m32, .ref m33, .int v34, .int v35, .int v36, .ref m37, .ref m38, .ref m39, .ref m40, .long v41])), (m16, .inl (k 0, 5, .inl f16)), (m17, .inl (k 0, 30, .inl f17)), (m20, .inl (k 0, 120, .inl f20))] tZ) (va_A [(mo, .inr (12, [.int v0, .ref m1, .ref m2, .ref m3, .ref m4, .ref m5, .int v6, .int v7, .int v8, .int v9, .int v10, .long v11, .int v12, .int v13, .int v14, .int v15, .ref m16, .ref m17, .ref m18, .ref m19, .ref m20, .ref m21, .ref m22, .ref m23, .int v24, .ref m25, .ref m26, .ref m27, .ref m28, .ref m29, .int v30, .ref m31, .ref m32, .ref m33, .int v34, .int v35, .int v36, .ref m37, .ref m38, .ref m39, .ref m40, .long v41])), (m16, .inl (k 0, 5, .inl f16)), (m17, .inl (k 0, 30, .inl f17)), (m20, .inl (k 0, 120, .inl f20))] sz)) 0 0 (va_A [(mo, .inr (12, [.int v0, .ref m1, .ref m2, .ref m3, .ref m4, .ref m5, .int v6, .int v7, .int v8, .int v9, .int v10, .long v11, .int v12, .int v13, .int v14, .int v15, .ref m16, .ref m17, .ref m18, .ref m19, .ref m20, .ref m21, .ref m22, .ref m23, .int v24, .ref m25, .ref m26, .ref m27, .ref m28, .ref m29, .int v30, .ref m31, .ref m32, .ref m33, .int v34, .int v35, .int v36, .ref m37, .ref m38, .ref m39, .ref m40, .long v41])), (m16, .inl (k 0, 5, .inl f16)), (m17, .inl (k 0, 30, .inl f17)), (m20, .inl (k 0, 120, .inl f20))] sz) := by
  refine Met.ofW (cc := cX12_price) (maxL := 4) (ret := (some .int)) (by decide +kernel) rfl ?_
  intro p e s m args below meth c s₁ B hml hv
  obtain ⟨rfl, hsz, hP, hK, hD0, hN⟩ := hv
  have hx := B.exec
  have hb := B.bytes
  have hr := B.returns
  have hts : ∀ w ∈ TT, w.before _ s = true := fun w h => atoms_spec (ws := ww yX12_price cX12_price 4 (some .int)) B.pre w (List.mem_cons_of_mem _ h)
  have hown : s.vm.findClass RX12 = some m.cls := findClass_of_methodNamed B.named
  have hlocks := B.notSynchronized
  subst hsz
  have hD := hD0.self (sz := s.heap.size)
  generalize hAe : va_A [(mo, .inr (12, [.int v0, .ref m1, .ref m2, .ref m3, .ref m4, .ref m5, .int v6, .int v7, .int v8, .int v9, .int v10, .long v11, .int v12, .int v13, .int v14, .int v15, .ref m16, .ref m17, .ref m18, .ref m19, .ref m20, .ref m21, .ref m22, .ref m23, .int v24, .ref m25, .ref m26, .ref m27, .ref m28, .ref m29, .int v30, .ref m31, .ref m32, .ref m33, .int v34, .int v35, .int v36, .ref m37, .ref m38, .ref m39, .ref m40, .long v41])), (m16, .inl (k 0, 5, .inl f16)), (m17, .inl (k 0, 30, .inl f17)), (m20, .inl (k 0, 120, .inl f20))] s.heap.size = A at hD ⊢
  have hA : ∀ q : Nat, s.heap.size ≤ q → A q := fun q h => by rw [← hAe]; exact Or.inr h
  have hS : va_S A s.heap s.heap [] := va_S.rf
  have hl := lv_entry ([.ref mo]) (n := 4) (Nat.le_of_ble_eq_true rfl)
  rw [lg_entry_eq]
  generalize (lg_sl ([.ref mo]) ++ List.replicate (4 - (lg_sl ([.ref mo])).length) Slot.unset).toArray = ls at hl ⊢
  have hl : lv_has ls 4 [(0, .ref mo)] := hl
  refine lv_aload_n hx hb dX12_price_0 rfl (lv_at hl 0 rfl) ?_
  refine lv_iconst (v := 0) hx hb dX12_price_1 (by decide) ?_
  refine va_put (D := D) (ci := 12) (v := .int 0) (ty := tyX12 0) (C := RX12) (T := TX12) (N := 42) hx hb hts iT_X12 tyX12 tyX12_ok nmX12 hown hK hP hD hS 0 rfl rfl 0 (by decide) (hts _ tw_6_53) (fun _ h9 => h9) rfl (tyX12_ok 0 (by decide)) rfl rfl (Nat.le_of_ble_eq_true rfl) dX12_price_2 (fun H locs hP hD hS => ?_)
  have hP : va_P D vwCl [(mo, .inr (12, [.int 0, .ref m1, .ref m2, .ref m3, .ref m4, .ref m5, .int v6, .int v7, .int v8, .int v9, .int v10, .long v11, .int v12, .int v13, .int v14, .int v15, .ref m16, .ref m17, .ref m18, .ref m19, .ref m20, .ref m21, .ref m22, .ref m23, .int v24, .ref m25, .ref m26, .ref m27, .ref m28, .ref m29, .int v30, .ref m31, .ref m32, .ref m33, .int v34, .int v35, .int v36, .ref m37, .ref m38, .ref m39, .ref m40, .long v41])), (m16, .inl (k 0, 5, .inl f16)), (m17, .inl (k 0, 30, .inl f17)), (m20, .inl (k 0, 120, .inl f20))] H := hP
  have hD : va_D A [(mo, .inr (12, [.int 0, .ref m1, .ref m2, .ref m3, .ref m4, .ref m5, .int v6, .int v7, .int v8, .int v9, .int v10, .long v11, .int v12, .int v13, .int v14, .int v15, .ref m16, .ref m17, .ref m18, .ref m19, .ref m20, .ref m21, .ref m22, .ref m23, .int v24, .ref m25, .ref m26, .ref m27, .ref m28, .ref m29, .int v30, .ref m31, .ref m32, .ref m33, .int v34, .int v35, .int v36, .ref m37, .ref m38, .ref m39, .ref m40, .long v41])), (m16, .inl (k 0, 5, .inl f16)), (m17, .inl (k 0, 30, .inl f17)), (m20, .inl (k 0, 120, .inl f20))] := hD
  refine lv_aload_n hx hb dX12_price_5 rfl (lv_at hl 0 rfl) ?_
  obtain ⟨hPc, hDc, hFc⟩ := sub3 hP hD hS hA (ws' := [(mo, .inr (12, [.int 0, .ref m1, .ref m2, .ref m3, .ref m4, .ref m5, .int v6, .int v7, .int v8, .int v9, .int v10, .long v11, .int v12, .int v13, .int v14, .int v15, .ref m16, .ref m17, .ref m18, .ref m19, .ref m20, .ref m21, .ref m22, .ref m23, .int v24, .ref m25, .ref m26, .ref m27, .ref m28, .ref m29, .int v30, .ref m31, .ref m32, .ref m33, .int v34, .int v35, .int v36, .ref m37, .ref m38, .ref m39, .ref m40, .long v41])), (m16, .inl (k 0, 5, .inl f16))]) [0, 1] (by decide +kernel) rfl
  refine va_calli (va_runV (C := RX12) (As := []) (rest := []) ⟨hx, hb, hml, hown, hts⟩ (c_X12_isTown l D k mo 0 m1 m2 m3 m4 m5 v6 v7 v8 v9 v10 v11 v12 v13 v14 v15 m16 m17 m18 m19 m20 m21 m22 m23 v24 m25 m26 m27 m28 m29 v30 m31 m32 m33 v34 v35 v36 m37 m38 m39 m40 v41 f16 H.size (show 0 ≤ v6.toInt ∧ v6.toInt ≤ 1000 from by omega) (show 0 ≤ v24.toInt ∧ v24.toInt ≤ 1023 from by omega)) (cwV 0 hts (gV tw_7_181 tw_7_183 tw_p_71 tw_1_13 tw_7_184) rfl rfl rfl hdV_X12_isTown ⟨Nat.le_of_ble_eq_true rfl, Nat.le_of_ble_eq_true rfl⟩) (cz_V hK hPc hDc hN (ci := 12) (q0 := 0) rfl rfl []) rfl rfl hl.1 rfl (lv_room (Nat.le_of_ble_eq_true rfl)) dX12_price_6 ⟨Nat.le_of_ble_eq_true rfl, Nat.le_of_ble_eq_true rfl⟩) hS (fun q _ h => hFc q h) hFc (fun r_1 uZ tZ H1 locs ht hvm hw hB hz1 hk1 hS => ?_)
  obtain ⟨hP1, hK1, hD1⟩ := hB
  rw [ht] at hP1
  obtain ⟨hP, hD⟩ := va_join (wr := [(m17, .inl (k 0, 30, .inl f17)), (m20, .inl (k 0, 120, .inl f20))]) (w1 := [(mo, .inr (12, [.int 0, .ref m1, .ref m2, .ref m3, .ref m4, .ref m5, .int v6, .int v7, .int v8, .int v9, .int v10, .long v11, .int v12, .int v13, .int v14, .int v15, .ref m16, .ref m17, .ref m18, .ref m19, .ref m20, .ref m21, .ref m22, .ref m23, .int v24, .ref m25, .ref m26, .ref m27, .ref m28, .ref m29, .int v30, .ref m31, .ref m32, .ref m33, .int v34, .int v35, .int v36, .ref m37, .ref m38, .ref m39, .ref m40, .long v41])), (m16, .inl (k 0, 5, .inl f16))]) hP hD [0, 1] [2, 3] rfl rfl (by decide +kernel) (by decide +kernel) hk1 hFc hP1 hD1
  clear hK1 hP1 hD1 hPc hDc hFc
  clear hk1 hz1 ht hvm
  have hP : va_P D vwCl [(m17, .inl (k 0, 30, .inl f17)), (m20, .inl (k 0, 120, .inl f20)), (mo, .inr (12, [.int 0, .ref m1, .ref m2, .ref m3, .ref m4, .ref m5, .int v6, .int v7, .int v8, .int v9, .int v10, .long v11, .int v12, .int v13, .int v14, .int v15, .ref m16, .ref m17, .ref m18, .ref m19, .ref m20, .ref m21, .ref m22, .ref m23, .int v24, .ref m25, .ref m26, .ref m27, .ref m28, .ref m29, .int v30, .ref m31, .ref m32, .ref m33, .int v34, .int v35, .int v36, .ref m37, .ref m38, .ref m39, .ref m40, .long v41])), (m16, .inl (k 0, 5, .inl f16))] H1 := hP
  have hD : va_D A [(m17, .inl (k 0, 30, .inl f17)), (m20, .inl (k 0, 120, .inl f20)), (mo, .inr (12, [.int 0, .ref m1, .ref m2, .ref m3, .ref m4, .ref m5, .int v6, .int v7, .int v8, .int v9, .int v10, .long v11, .int v12, .int v13, .int v14, .int v15, .ref m16, .ref m17, .ref m18, .ref m19, .ref m20, .ref m21, .ref m22, .ref m23, .int v24, .ref m25, .ref m26, .ref m27, .ref m28, .ref m29, .int v30, .ref m31, .ref m32, .ref m33, .int v34, .int v35, .int v36, .ref m37, .ref m38, .ref m39, .ref m40, .long v41])), (m16, .inl (k 0, 5, .inl f16))] := hD
  generalize H1 = H at hP hS ⊢
  have hw_2 : (0 ≤ r_1.toInt ∧ r_1.toInt ≤ 1) := hw
  have hw_3 := hw_2
  clear hw
  refine lv_if_ne (tgt := 15) hx hb dX12_price_9 (by decide) (fun h_4 => ?_) (fun h_4 => ?_)
  · skip
    have zh_4 : ¬ r_1.toInt = 0 := z_ne h_4
    refine lv_aload_n hx hb dX12_price_15 rfl (lv_at hl 0 rfl) ?_
    obtain ⟨hPc, hDc, hFc⟩ := sub3 hP hD hS hA (ws' := [(mo, .inr (12, [.int 0, .ref m1, .ref m2, .ref m3, .ref m4, .ref m5, .int v6, .int v7, .int v8, .int v9, .int v10, .long v11, .int v12, .int v13, .int v14, .int v15, .ref m16, .ref m17, .ref m18, .ref m19, .ref m20, .ref m21, .ref m22, .ref m23, .int v24, .ref m25, .ref m26, .ref m27, .ref m28, .ref m29, .int v30, .ref m31, .ref m32, .ref m33, .int v34, .int v35, .int v36, .ref m37, .ref m38, .ref m39, .ref m40, .long v41])), (m17, .inl (k 0, 30, .inl f17)), (m20, .inl (k 0, 120, .inl f20))]) [2, 0, 1] (by decide +kernel) rfl
    refine va_calli (va_runV (C := RX12) (As := []) (rest := []) ⟨hx, hb, hml, hown, hts⟩ (c_X12_winner l D k mo 0 m1 m2 m3 m4 m5 v6 v7 v8 v9 v10 v11 v12 v13 v14 v15 m16 m17 m18 m19 m20 m21 m22 m23 v24 m25 m26 m27 m28 m29 v30 m31 m32 m33 v34 v35 v36 m37 m38 m39 m40 v41 f17 f20 H.size (show 0 ≤ v6.toInt ∧ v6.toInt ≤ 1000 from by omega) (show 0 ≤ v24.toInt ∧ v24.toInt ≤ 1023 from by omega) hp_f17_0 hp_f17_1 hp_f17_2 hp_f17_3 hp_f17_4 hp_f17_5 hp_f20_0) (cwV 0 hts (gV tw_8_158 tw_8_160 tw_p_91 tw_1_13 tw_8_161) rfl rfl rfl hdV_X12_winner ⟨Nat.le_of_ble_eq_true rfl, Nat.le_of_ble_eq_true rfl⟩) (cz_V hK hPc hDc hN (ci := 12) (q0 := 0) rfl rfl []) rfl rfl hl.1 rfl (lv_room (Nat.le_of_ble_eq_true rfl)) dX12_price_16 ⟨Nat.le_of_ble_eq_true rfl, Nat.le_of_ble_eq_true rfl⟩) hS (fun q _ h => hFc q h) hFc (fun r_5 uZ tZ H1 locs ht hvm hw hB hz1 hk1 hS => ?_)
    obtain ⟨hP1, hK1, hD1⟩ := hB
    rw [ht] at hP1
    obtain ⟨hP, hD⟩ := va_join (wr := [(m16, .inl (k 0, 5, .inl f16))]) (w1 := [(mo, .inr (12, [.int 0, .ref m1, .ref m2, .ref m3, .ref m4, .ref m5, .int v6, .int v7, .int v8, .int v9, .int v10, .long v11, .int v12, .int v13, .int v14, .int v15, .ref m16, .ref m17, .ref m18, .ref m19, .ref m20, .ref m21, .ref m22, .ref m23, .int v24, .ref m25, .ref m26, .ref m27, .ref m28, .ref m29, .int v30, .ref m31, .ref m32, .ref m33, .int v34, .int v35, .int v36, .ref m37, .ref m38, .ref m39, .ref m40, .long v41])), (m17, .inl (k 0, 30, .inl f17)), (m20, .inl (k 0, 120, .inl f20))]) hP hD [2, 0, 1] [3] rfl rfl (by decide +kernel) (by decide +kernel) hk1 hFc hP1 hD1
    clear hK1 hP1 hD1 hPc hDc hFc
    clear hk1 hz1 ht hvm
    have hP : va_P D vwCl [(m16, .inl (k 0, 5, .inl f16)), (mo, .inr (12, [.int 0, .ref m1, .ref m2, .ref m3, .ref m4, .ref m5, .int v6, .int v7, .int v8, .int v9, .int v10, .long v11, .int v12, .int v13, .int v14, .int v15, .ref m16, .ref m17, .ref m18, .ref m19, .ref m20, .ref m21, .ref m22, .ref m23, .int v24, .ref m25, .ref m26, .ref m27, .ref m28, .ref m29, .int v30, .ref m31, .ref m32, .ref m33, .int v34, .int v35, .int v36, .ref m37, .ref m38, .ref m39, .ref m40, .long v41])), (m17, .inl (k 0, 30, .inl f17)), (m20, .inl (k 0, 120, .inl f20))] H1 := hP
    have hD : va_D A [(m16, .inl (k 0, 5, .inl f16)), (mo, .inr (12, [.int 0, .ref m1, .ref m2, .ref m3, .ref m4, .ref m5, .int v6, .int v7, .int v8, .int v9, .int v10, .long v11, .int v12, .int v13, .int v14, .int v15, .ref m16, .ref m17, .ref m18, .ref m19, .ref m20, .ref m21, .ref m22, .ref m23, .int v24, .ref m25, .ref m26, .ref m27, .ref m28, .ref m29, .int v30, .ref m31, .ref m32, .ref m33, .int v34, .int v35, .int v36, .ref m37, .ref m38, .ref m39, .ref m40, .long v41])), (m17, .inl (k 0, 30, .inl f17)), (m20, .inl (k 0, 120, .inl f20))] := hD
    generalize H1 = H at hP hS ⊢
    have hw_6 : ((-1) ≤ r_5.toInt ∧ r_5.toInt ≤ 5) := hw
    have hw_7 := hw_6
    clear hw
    refine lv_istore_n (lv' := [(1, .int r_5), (0, .ref mo)]) hx hb dX12_price_19 rfl hl (by decide) rfl (fun ls hl => ?_)
    refine lv_iload_n hx hb dX12_price_20 rfl (lv_at hl 0 rfl) ?_
    refine lv_iconst (v := (-1)) hx hb dX12_price_21 (by decide) ?_
    refine lv_icmp_ne (tgt := 27) hx hb dX12_price_22 (by decide) (fun h_8 => ?_) (fun h_8 => ?_)
    · skip
      have zh_8 : ¬ r_5.toInt = (-1) := z_ne h_8
      refine lv_iconst (v := 0) hx hb dX12_price_27 (by decide) ?_
      refine lv_istore_n (lv' := [(2, .int 0), (1, .int r_5), (0, .ref mo)]) hx hb dX12_price_28 rfl hl (by decide) rfl (fun ls hl => ?_)
      refine lv_iconst (v := 0) hx hb dX12_price_29 (by decide) ?_
      refine lv_istore_n (lv' := [(3, .int 0), (2, .int 0), (1, .int r_5), (0, .ref mo)]) hx hb dX12_price_30 rfl hl (by decide) rfl (fun ls hl => ?_)
      refine loop_r (Wg := fun H locs ls => W p l e _ s m _ below meth c H locs _ _ _ (F0 m 31 ls [])) (fun n9 H locs ls => ∃ (L31l2 : Int32) (L31l3 : Int32), n9 = (6 - L31l3.toInt).toNat ∧ (0 ≤ L31l2.toInt ∧ L31l2.toInt ≤ 2147483647) ∧ (0 ≤ L31l3.toInt ∧ L31l3.toInt ≤ 6) ∧ va_P D vwCl [(m16, .inl (k 0, 5, .inl f16)), (mo, .inr (12, [.int 0, .ref m1, .ref m2, .ref m3, .ref m4, .ref m5, .int v6, .int v7, .int v8, .int v9, .int v10, .long v11, .int v12, .int v13, .int v14, .int v15, .ref m16, .ref m17, .ref m18, .ref m19, .ref m20, .ref m21, .ref m22, .ref m23, .int v24, .ref m25, .ref m26, .ref m27, .ref m28, .ref m29, .int v30, .ref m31, .ref m32, .ref m33, .int v34, .int v35, .int v36, .ref m37, .ref m38, .ref m39, .ref m40, .long v41])), (m17, .inl (k 0, 30, .inl f17)), (m20, .inl (k 0, 120, .inl f20))] H ∧ va_D A [(m16, .inl (k 0, 5, .inl f16)), (mo, .inr (12, [.int 0, .ref m1, .ref m2, .ref m3, .ref m4, .ref m5, .int v6, .int v7, .int v8, .int v9, .int v10, .long v11, .int v12, .int v13, .int v14, .int v15, .ref m16, .ref m17, .ref m18, .ref m19, .ref m20, .ref m21, .ref m22, .ref m23, .int v24, .ref m25, .ref m26, .ref m27, .ref m28, .ref m29, .int v30, .ref m31, .ref m32, .ref m33, .int v34, .int v35, .int v36, .ref m37, .ref m38, .ref m39, .ref m40, .long v41])), (m17, .inl (k 0, 30, .inl f17)), (m20, .inl (k 0, 120, .inl f20))] ∧ va_S A s.heap H locs ∧ lv_has ls 4 [(0, .ref mo), (1, .int r_5), (2, .int L31l2), (3, .int L31l3)]) (fun n9 H locs ls hI ih_9 => ?_) _ _ _ _ ⟨0, 0, rfl, (show 0 ≤ 0 ∧ 0 ≤ 2147483647 from by omega), (show 0 ≤ 0 ∧ 0 ≤ 6 from by omega), hP.sub (ws' := [(m16, .inl (k 0, 5, .inl f16)), (mo, .inr (12, [.int 0, .ref m1, .ref m2, .ref m3, .ref m4, .ref m5, .int v6, .int v7, .int v8, .int v9, .int v10, .long v11, .int v12, .int v13, .int v14, .int v15, .ref m16, .ref m17, .ref m18, .ref m19, .ref m20, .ref m21, .ref m22, .ref m23, .int v24, .ref m25, .ref m26, .ref m27, .ref m28, .ref m29, .int v30, .ref m31, .ref m32, .ref m33, .int v34, .int v35, .int v36, .ref m37, .ref m38, .ref m39, .ref m40, .long v41])), (m17, .inl (k 0, 30, .inl f17)), (m20, .inl (k 0, 120, .inl f20))]) [0, 1, 2, 3] rfl, hD.sub (ws' := [(m16, .inl (k 0, 5, .inl f16)), (mo, .inr (12, [.int 0, .ref m1, .ref m2, .ref m3, .ref m4, .ref m5, .int v6, .int v7, .int v8, .int v9, .int v10, .long v11, .int v12, .int v13, .int v14, .int v15, .ref m16, .ref m17, .ref m18, .ref m19, .ref m20, .ref m21, .ref m22, .ref m23, .int v24, .ref m25, .ref m26, .ref m27, .ref m28, .ref m29, .int v30, .ref m31, .ref m32, .ref m33, .int v34, .int v35, .int v36, .ref m37, .ref m38, .ref m39, .ref m40, .long v41])), (m17, .inl (k 0, 30, .inl f17)), (m20, .inl (k 0, 120, .inl f20))]) [0, 1, 2, 3] (by decide +kernel) rfl, hS, lv_sub hl [3, 2, 1, 0] rfl⟩
      clear hP hD hS hl
      obtain ⟨L31l2, L31l3, en_10, zL31l2, zL31l3, hP, hD, hS, hl⟩ := hI
      refine lv_iload_n hx hb dX12_price_31 rfl (lv_at hl 3 rfl) ?_
      refine lv_aload_n hx hb dX12_price_32 rfl (lv_at hl 0 rfl) ?_
      refine va_get (D := D) (ci := 12) (v := .ref m17) (C := RX12) (T := TX12) (N := 42) hx hb hts iT_X12 hown hK hP 1 rfl rfl 17 (by decide) (hts _ tw_6_70) (fun _ h9 => h9) rfl dX12_price_33 ?_
      refine lv_iconst (v := 3) hx hb dX12_price_36 (by decide) ?_
      refine va_iald hx hb hK hP 2 0 rfl rfl (z_in (by decide) (by decide)) dX12_price_37 ?_
      refine lv_topi (fun x_11 ex_11 => ?_)
      have zx_11r3 : 0 ≤ x_11.toInt ∧ x_11.toInt ≤ 6 := by rw [ex_11]; exact PR.ld hp_f17_3 (by decide) (by decide) (by decide)
      refine lv_icmp_ge (tgt := 77) hx hb dX12_price_38 (by decide) (fun h_12 => ?_) (fun h_12 => ?_)
      · skip
        have zh_12 : x_11.toInt ≤ L31l3.toInt := z_le h_12
        refine lv_iload_n hx hb dX12_price_77 rfl (lv_at hl 2 rfl) ?_
        obtain ⟨hP9, hD9⟩ := sub2 hP hD (ws' := [(mo, .inr (12, [.int 0, .ref m1, .ref m2, .ref m3, .ref m4, .ref m5, .int v6, .int v7, .int v8, .int v9, .int v10, .long v11, .int v12, .int v13, .int v14, .int v15, .ref m16, .ref m17, .ref m18, .ref m19, .ref m20, .ref m21, .ref m22, .ref m23, .int v24, .ref m25, .ref m26, .ref m27, .ref m28, .ref m29, .int v30, .ref m31, .ref m32, .ref m33, .int v34, .int v35, .int v36, .ref m37, .ref m38, .ref m39, .ref m40, .long v41])), (m16, .inl (k 0, 5, .inl f16)), (m17, .inl (k 0, 30, .inl f17)), (m20, .inl (k 0, 120, .inl f20))]) [1, 0, 2, 3] (by decide +kernel) rfl
        exact W.iret (v := L31l2) hx hb hr (fun tZ ht hW => ⟨⟨L31l2, 0, rfl, ⟨(show (-2) ≤ L31l2.toInt ∧ L31l2.toInt ≤ 2147483647 from by have := z_rng L31l2; omega), (show 0 ≤ 0 ∧ 0 ≤ 0 from by omega)⟩, by rw [ht]; exact hP9, va_K.moved hW.alike hK, hD9⟩, hS.F ht⟩) hS.2.2 dX12_price_78
      · skip
        have zh_12 : L31l3.toInt < x_11.toInt := z_nle h_12
        refine lv_iload_n hx hb dX12_price_41 rfl (lv_at hl 3 rfl) ?_
        refine lv_iload_n hx hb dX12_price_42 rfl (lv_at hl 1 rfl) ?_
        refine lv_icmp_eq (tgt := 71) hx hb dX12_price_43 (by decide) (fun h_13 => ?_) (fun h_13 => ?_)
        · skip
          have zh_13 : L31l3.toInt = r_5.toInt := z_eq h_13
          obtain ⟨x_14, ex_14⟩ : ∃ y : Int32, y = L31l3 + 1 := ⟨_, rfl⟩
          have zx_14 : x_14.toInt = L31l3.toInt + 1 := by rw [ex_14]; exact z_add rfl rfl (by omega) (by omega)
          refine lv_iinc (v := x_14) (lv' := [(3, .int x_14), (0, .ref mo), (1, .int r_5), (2, .int L31l2)]) hx hb dX12_price_71 hl (k := 3) rfl (by rw [ex_14]; rfl) (by decide) rfl (fun ls hl => ?_)
          refine lv_goto (tgt := 31) hx hb dX12_price_74 (by decide) ?_
          exact ih_9 _ _ _ _ (by omega) ⟨L31l2, x_14, rfl, (show 0 ≤ L31l2.toInt ∧ L31l2.toInt ≤ 2147483647 from by have := z_rng L31l2; omega), (show 0 ≤ x_14.toInt ∧ x_14.toInt ≤ 6 from by omega), hP.sub (ws' := [(m16, .inl (k 0, 5, .inl f16)), (mo, .inr (12, [.int 0, .ref m1, .ref m2, .ref m3, .ref m4, .ref m5, .int v6, .int v7, .int v8, .int v9, .int v10, .long v11, .int v12, .int v13, .int v14, .int v15, .ref m16, .ref m17, .ref m18, .ref m19, .ref m20, .ref m21, .ref m22, .ref m23, .int v24, .ref m25, .ref m26, .ref m27, .ref m28, .ref m29, .int v30, .ref m31, .ref m32, .ref m33, .int v34, .int v35, .int v36, .ref m37, .ref m38, .ref m39, .ref m40, .long v41])), (m17, .inl (k 0, 30, .inl f17)), (m20, .inl (k 0, 120, .inl f20))]) [0, 1, 2, 3] rfl, hD.sub (ws' := [(m16, .inl (k 0, 5, .inl f16)), (mo, .inr (12, [.int 0, .ref m1, .ref m2, .ref m3, .ref m4, .ref m5, .int v6, .int v7, .int v8, .int v9, .int v10, .long v11, .int v12, .int v13, .int v14, .int v15, .ref m16, .ref m17, .ref m18, .ref m19, .ref m20, .ref m21, .ref m22, .ref m23, .int v24, .ref m25, .ref m26, .ref m27, .ref m28, .ref m29, .int v30, .ref m31, .ref m32, .ref m33, .int v34, .int v35, .int v36, .ref m37, .ref m38, .ref m39, .ref m40, .long v41])), (m17, .inl (k 0, 30, .inl f17)), (m20, .inl (k 0, 120, .inl f20))]) [0, 1, 2, 3] (by decide +kernel) rfl, hS, lv_sub hl [1, 2, 3, 0] rfl⟩
        · skip
          have zh_13 : ¬ L31l3.toInt = r_5.toInt := z_ne h_13
          refine lv_aload_n hx hb dX12_price_46 rfl (lv_at hl 0 rfl) ?_
          refine va_get (D := D) (ci := 12) (v := .ref m20) (C := RX12) (T := TX12) (N := 42) hx hb hts iT_X12 hown hK hP 1 rfl rfl 20 (by decide) (hts _ tw_6_73) (fun _ h9 => h9) rfl dX12_price_47 ?_
          refine lv_iconst (v := 4) hx hb dX12_price_50 (by decide) ?_
          refine lv_iload_n hx hb dX12_price_51 rfl (lv_at hl 3 rfl) ?_
          refine lv_imul hx hb dX12_price_52 ?_
          refine lv_topi (fun x_15 ex_15 => ?_)
          have zx_15 : x_15.toInt = 4 * L31l3.toInt := by rw [ex_15]; exact z_mul rfl rfl (by omega) (by omega)
          refine lv_iconst (v := 2) hx hb dX12_price_53 (by decide) ?_
          refine lv_iadd hx hb dX12_price_54 ?_
          refine lv_topi (fun x_16 ex_16 => ?_)
          have zx_16 : x_16.toInt = x_15.toInt + 2 := by rw [ex_16]; exact z_add rfl rfl (by omega) (by omega)
          refine va_iald hx hb hK hP 3 0 rfl rfl (z_in (by omega) (by omega)) dX12_price_55 ?_
          refine lv_topi (fun x_17 ex_17 => ?_)
          refine lv_iload_n hx hb dX12_price_56 rfl (lv_at hl 2 rfl) ?_
          refine lv_icmp_le (tgt := 71) hx hb dX12_price_57 (by decide) (fun h_18 => ?_) (fun h_18 => ?_)
          · skip
            have zh_18 : x_17.toInt ≤ L31l2.toInt := z_le h_18
            obtain ⟨x_19, ex_19⟩ : ∃ y : Int32, y = L31l3 + 1 := ⟨_, rfl⟩
            have zx_19 : x_19.toInt = L31l3.toInt + 1 := by rw [ex_19]; exact z_add rfl rfl (by omega) (by omega)
            refine lv_iinc (v := x_19) (lv' := [(3, .int x_19), (0, .ref mo), (1, .int r_5), (2, .int L31l2)]) hx hb dX12_price_71 hl (k := 3) rfl (by rw [ex_19]; rfl) (by decide) rfl (fun ls hl => ?_)
            refine lv_goto (tgt := 31) hx hb dX12_price_74 (by decide) ?_
            exact ih_9 _ _ _ _ (by omega) ⟨L31l2, x_19, rfl, (show 0 ≤ L31l2.toInt ∧ L31l2.toInt ≤ 2147483647 from by have := z_rng L31l2; omega), (show 0 ≤ x_19.toInt ∧ x_19.toInt ≤ 6 from by omega), hP.sub (ws' := [(m16, .inl (k 0, 5, .inl f16)), (mo, .inr (12, [.int 0, .ref m1, .ref m2, .ref m3, .ref m4, .ref m5, .int v6, .int v7, .int v8, .int v9, .int v10, .long v11, .int v12, .int v13, .int v14, .int v15, .ref m16, .ref m17, .ref m18, .ref m19, .ref m20, .ref m21, .ref m22, .ref m23, .int v24, .ref m25, .ref m26, .ref m27, .ref m28, .ref m29, .int v30, .ref m31, .ref m32, .ref m33, .int v34, .int v35, .int v36, .ref m37, .ref m38, .ref m39, .ref m40, .long v41])), (m17, .inl (k 0, 30, .inl f17)), (m20, .inl (k 0, 120, .inl f20))]) [0, 1, 2, 3] rfl, hD.sub (ws' := [(m16, .inl (k 0, 5, .inl f16)), (mo, .inr (12, [.int 0, .ref m1, .ref m2, .ref m3, .ref m4, .ref m5, .int v6, .int v7, .int v8, .int v9, .int v10, .long v11, .int v12, .int v13, .int v14, .int v15, .ref m16, .ref m17, .ref m18, .ref m19, .ref m20, .ref m21, .ref m22, .ref m23, .int v24, .ref m25, .ref m26, .ref m27, .ref m28, .ref m29, .int v30, .ref m31, .ref m32, .ref m33, .int v34, .int v35, .int v36, .ref m37, .ref m38, .ref m39, .ref m40, .long v41])), (m17, .inl (k 0, 30, .inl f17)), (m20, .inl (k 0, 120, .inl f20))]) [0, 1, 2, 3] (by decide +kernel) rfl, hS, lv_sub hl [1, 2, 3, 0] rfl⟩
          · skip
            have zh_18 : L31l2.toInt < x_17.toInt := z_nle h_18
            refine lv_aload_n hx hb dX12_price_60 rfl (lv_at hl 0 rfl) ?_
            refine va_get (D := D) (ci := 12) (v := .ref m20) (C := RX12) (T := TX12) (N := 42) hx hb hts iT_X12 hown hK hP 1 rfl rfl 20 (by decide) (hts _ tw_6_73) (fun _ h9 => h9) rfl dX12_price_61 ?_
            refine lv_iconst (v := 4) hx hb dX12_price_64 (by decide) ?_
            refine lv_iload_n hx hb dX12_price_65 rfl (lv_at hl 3 rfl) ?_
            refine lv_imul hx hb dX12_price_66 ?_
            refine lv_topi (fun x_20 ex_20 => ?_)
            obtain rfl : x_15 = x_20 := ex_15.trans ex_20.symm
            refine lv_iconst (v := 2) hx hb dX12_price_67 (by decide) ?_
            refine lv_iadd hx hb dX12_price_68 ?_
            refine lv_topi (fun x_21 ex_21 => ?_)
            obtain rfl : x_16 = x_21 := ex_16.trans ex_21.symm
            refine va_iald hx hb hK hP 3 0 rfl rfl (z_in (by omega) (by omega)) dX12_price_69 ?_
            refine lv_topi (fun x_22 ex_22 => ?_)
            obtain rfl : x_17 = x_22 := ex_17.trans ex_22.symm
            refine lv_istore_n (lv' := [(2, .int x_17), (0, .ref mo), (1, .int r_5), (3, .int L31l3)]) hx hb dX12_price_70 rfl hl (by decide) rfl (fun ls hl => ?_)
            obtain ⟨x_23, ex_23⟩ : ∃ y : Int32, y = L31l3 + 1 := ⟨_, rfl⟩
            have zx_23 : x_23.toInt = L31l3.toInt + 1 := by rw [ex_23]; exact z_add rfl rfl (by omega) (by omega)
            refine lv_iinc (v := x_23) (lv' := [(3, .int x_23), (2, .int x_17), (0, .ref mo), (1, .int r_5)]) hx hb dX12_price_71 hl (k := 3) rfl (by rw [ex_23]; rfl) (by decide) rfl (fun ls hl => ?_)
            refine lv_goto (tgt := 31) hx hb dX12_price_74 (by decide) ?_
            exact ih_9 _ _ _ _ (by omega) ⟨x_17, x_23, rfl, (show 0 ≤ x_17.toInt ∧ x_17.toInt ≤ 2147483647 from by have := z_rng x_17; omega), (show 0 ≤ x_23.toInt ∧ x_23.toInt ≤ 6 from by omega), hP.sub (ws' := [(m16, .inl (k 0, 5, .inl f16)), (mo, .inr (12, [.int 0, .ref m1, .ref m2, .ref m3, .ref m4, .ref m5, .int v6, .int v7, .int v8, .int v9, .int v10, .long v11, .int v12, .int v13, .int v14, .int v15, .ref m16, .ref m17, .ref m18, .ref m19, .ref m20, .ref m21, .ref m22, .ref m23, .int v24, .ref m25, .ref m26, .ref m27, .ref m28, .ref m29, .int v30, .ref m31, .ref m32, .ref m33, .int v34, .int v35, .int v36, .ref m37, .ref m38, .ref m39, .ref m40, .long v41])), (m17, .inl (k 0, 30, .inl f17)), (m20, .inl (k 0, 120, .inl f20))]) [0, 1, 2, 3] rfl, hD.sub (ws' := [(m16, .inl (k 0, 5, .inl f16)), (mo, .inr (12, [.int 0, .ref m1, .ref m2, .ref m3, .ref m4, .ref m5, .int v6, .int v7, .int v8, .int v9, .int v10, .long v11, .int v12, .int v13, .int v14, .int v15, .ref m16, .ref m17, .ref m18, .ref m19, .ref m20, .ref m21, .ref m22, .ref m23, .int v24, .ref m25, .ref m26, .ref m27, .ref m28, .ref m29, .int v30, .ref m31, .ref m32, .ref m33, .int v34, .int v35, .int v36, .ref m37, .ref m38, .ref m39, .ref m40, .long v41])), (m17, .inl (k 0, 30, .inl f17)), (m20, .inl (k 0, 120, .inl f20))]) [0, 1, 2, 3] (by decide +kernel) rfl, hS, lv_sub hl [2, 3, 1, 0] rfl⟩
    · skip
      have zh_8 : r_5.toInt = (-1) := z_eq h_8
      refine lv_iconst (v := (-1)) hx hb dX12_price_25 (by decide) ?_
      obtain ⟨hP9, hD9⟩ := sub2 hP hD (ws' := [(mo, .inr (12, [.int 0, .ref m1, .ref m2, .ref m3, .ref m4, .ref m5, .int v6, .int v7, .int v8, .int v9, .int v10, .long v11, .int v12, .int v13, .int v14, .int v15, .ref m16, .ref m17, .ref m18, .ref m19, .ref m20, .ref m21, .ref m22, .ref m23, .int v24, .ref m25, .ref m26, .ref m27, .ref m28, .ref m29, .int v30, .ref m31, .ref m32, .ref m33, .int v34, .int v35, .int v36, .ref m37, .ref m38, .ref m39, .ref m40, .long v41])), (m16, .inl (k 0, 5, .inl f16)), (m17, .inl (k 0, 30, .inl f17)), (m20, .inl (k 0, 120, .inl f20))]) [1, 0, 2, 3] (by decide +kernel) rfl
      exact W.iret (v := (-1)) hx hb hr (fun tZ ht hW => ⟨⟨(-1), 0, rfl, ⟨(show (-2) ≤ (-1) ∧ (-1) ≤ 2147483647 from by omega), (show 0 ≤ 0 ∧ 0 ≤ 0 from by omega)⟩, by rw [ht]; exact hP9, va_K.moved hW.alike hK, hD9⟩, hS.F ht⟩) hS.2.2 dX12_price_26
  · skip
    have zh_4 : r_1.toInt = 0 := z_eq h_4
    refine lv_bipush (v := (-2)) hx hb dX12_price_12 (by decide) ?_
    obtain ⟨hP9, hD9⟩ := sub2 hP hD (ws' := [(mo, .inr (12, [.int 0, .ref m1, .ref m2, .ref m3, .ref m4, .ref m5, .int v6, .int v7, .int v8, .int v9, .int v10, .long v11, .int v12, .int v13, .int v14, .int v15, .ref m16, .ref m17, .ref m18, .ref m19, .ref m20, .ref m21, .ref m22, .ref m23, .int v24, .ref m25, .ref m26, .ref m27, .ref m28, .ref m29, .int v30, .ref m31, .ref m32, .ref m33, .int v34, .int v35, .int v36, .ref m37, .ref m38, .ref m39, .ref m40, .long v41])), (m16, .inl (k 0, 5, .inl f16)), (m17, .inl (k 0, 30, .inl f17)), (m20, .inl (k 0, 120, .inl f20))]) [2, 3, 0, 1] (by decide +kernel) rfl
    exact W.iret (v := (-2)) hx hb hr (fun tZ ht hW => ⟨⟨(-2), 0, rfl, ⟨(show (-2) ≤ (-2) ∧ (-2) ≤ 2147483647 from by omega), (show 0 ≤ 0 ∧ 0 ≤ 0 from by omega)⟩, by rw [ht]; exact hP9, va_K.moved hW.alike hK, hD9⟩, hS.F ht⟩) hS.2.2 dX12_price_14
set_option maxHeartbeats 4000000 in
set_option maxRecDepth 100000 in
theorem c_X12_laysGame (l : Launch) (D : va_G) (k : Nat → ClassId) (mo : Nat) (v0 : Int32) (m1 : Nat) (m2 : Nat) (m3 : Nat) (m4 : Nat) (m5 : Nat) (v6 : Int32) (v7 : Int32) (v8 : Int32) (v9 : Int32) (v10 : Int32) (v11 : Int64) (v12 : Int32) (v13 : Int32) (v14 : Int32) (v15 : Int32) (m16 : Nat) (m17 : Nat) (m18 : Nat) (m19 : Nat) (m20 : Nat) (m21 : Nat) (m22 : Nat) (m23 : Nat) (v24 : Int32) (m25 : Nat) (m26 : Nat) (m27 : Nat) (m28 : Nat) (m29 : Nat) (v30 : Int32) (m31 : Nat) (m32 : Nat) (m33 : Nat) (v34 : Int32) (v35 : Int32) (v36 : Int32) (m37 : Nat) (m38 : Nat) (m39 : Nat) (m40 : Nat) (v41 : Int64) (f17 : Nat → Int32) (f18 : Nat → Int32) (f19 : Nat → Int32) (f20 : Nat → Int32) (f22 : Nat → Int32) (f25 : Nat → Int32) (f26 : Nat → Int32) (f39 : Nat → Int32) (sz : Nat) (h_v6 : 0 ≤ v6.toInt ∧ v6.toInt ≤ 1000) (h_v24 : 0 ≤ v24.toInt ∧ v24.toInt ≤ 1023) (hp_f17_0 : PR 30 6 0 0 8 f17) (hp_f17_1 : PR 30 6 1 0 10 f17) (hp_f17_2 : PR 30 6 2 0 4 f17) (hp_f17_3 : PR 30 6 3 0 6 f17) (hp_f17_4 : PR 30 6 4 0 2 f17) (hp_f17_5 : PR 30 6 5 0 40 f17) (hp_f18_0 : PR 250 5 0 0 7 f18) (hp_f18_1 : PR 250 5 1 0 7 f18) (hp_f18_2 : PR 250 5 2 0 60 f18) (hp_f18_3 : PR 250 5 3 0 10 f18) (hp_f19_0 : PR 40 2 0 0 7 f19) (hp_f19_1 : PR 40 2 1 0 99 f19) (hp_f20_0 : PR 120 4 0 0 7 f20) (hp_f22_0 : PR 600 3 1 0 9 f22) (hp_f22_1 : PR 600 3 2 0 99 f22) (hp_f22_2 : AK f22) (hp_f25_0 : PR 4 1 0 0 99 f25) (hp_f26_0 : PR 8 1 0 0 100000 f26) : Met l yX12_laysGame (ww yX12_laysGame cX12_laysGame 3 none) ({ frames := 5, cells := 0, slots := 0, locals := 113 }) (Pre0 D k [(mo, .inr (12, [.int v0, .ref m1, .ref m2, .ref m3, .ref m4, .ref m5, .int v6, .int v7, .int v8, .int v9, .int v10, .long v11, .int v12, .int v13, .int v14, .int v15, .ref m16, .ref m17, .ref m18, .ref m19, .ref m20, .ref m21, .ref m22, .ref m23, .int v24, .ref m25, .ref m26, .ref m27, .ref m28, .ref m29, .int v30, .ref m31, .ref m32, .ref m33, .int v34, .int v35, .int v36, .ref m37, .ref m38, .ref m39, .ref m40, .long v41])), (m17, .inl (k 0, 30, .inl f17)), (m18, .inl (k 0, 250, .inl f18)), (m19, .inl (k 0, 40, .inl f19)), (m20, .inl (k 0, 120, .inl f20)), (m22, .inl (k 0, 600, .inl f22)), (m25, .inl (k 0, 4, .inl f25)), (m26, .inl (k 0, 8, .inl f26)), (m39, .inl (k 0, 44, .inl f39))] sz [.ref mo]) (va_Qv (fun (u : Int32 × (Nat → Int32) × (Nat → Int32) × (Nat → Int32)) => match u with | (v24z, f25z, f26z, f39z) => (0 ≤ v24z.toInt ∧ v24z.toInt ≤ 1023) ∧ (PR 4 1 0 0 99 f25z) ∧ (PR 8 1 0 0 100000 f26z)) (fun (u : Int32 × (Nat → Int32) × (Nat → Int32) × (Nat → Int32)) tZ => match u with | (v24z, f25z, f26z, f39z) => Bw D k (va_A [(mo, .inr (12, [.int v0, .ref m1, .ref m2, .ref m3, .ref m4, .ref m5, .int v6, .int v7, .int v8, .int v9, .int v10, .long v11, .int v12, .int v13, .int v14, .int v15, .ref m16, .ref m17, .ref m18, .ref m19, .ref m20, .ref m21, .ref m22, .ref m23, .int v24, .ref m25, .ref m26, .ref m27, .ref m28, .ref m29, .int v30, .ref m31, .ref m32, .ref m33, .int v34, .int v35, .int v36, .ref m37, .ref m38, .ref m39, .ref m40, .long v41])), (m17, .inl (k 0, 30, .inl f17)), (m18, .inl (k 0, 250, .inl f18)), (m19, .inl (k 0, 40, .inl f19)), (m20, .inl (k 0, 120, .inl f20)), (m22, .inl (k 0, 600, .inl f22)), (m25, .inl (k 0, 4, .inl f25)), (m26, .inl (k 0, 8, .inl f26)), (m39, .inl (k 0, 44, .inl f39))] sz) [(mo, .inr (12, [.int v0, .ref m1, .ref m2, .ref m3, .ref m4, .ref m5, .int v6, .int v7, .int v8, .int v9, .int v10, .long v11, .int v12, .int v13, .int v14, .int v15, .ref m16, .ref m17, .ref m18, .ref m19, .ref m20, .ref m21, .ref m22, .ref m23, .int v24z, .ref m25, .ref m26, .ref m27, .ref m28, .ref m29, .int v30, .ref m31, .ref m32, .ref m33, .int v34, .int v35, .int v36, .ref m37, .ref m38, .ref m39, .ref m40, .long v41])), (m17, .inl (k 0, 30, .inl f17)), (m18, .inl (k 0, 250, .inl f18)), (m19, .inl (k 0, 40, .inl f19)), (m20, .inl (k 0, 120, .inl f20)), (m22, .inl (k 0, 600, .inl f22)), (m25, .inl (k 0, 4, .inl f25z)), (m26, .inl (k 0, 8, .inl f26z)), (m39, .inl (k 0, 44, .inl f39z))] tZ) (va_A [(mo, .inr (12, [.int v0, .ref m1, .ref m2, .ref m3, .ref m4, .ref m5, .int v6, .int v7, .int v8, .int v9, .int v10, .long v11, .int v12, .int v13, .int v14, .int v15, .ref m16, .ref m17, .ref m18, .ref m19, .ref m20, .ref m21, .ref m22, .ref m23, .int v24, .ref m25, .ref m26, .ref m27, .ref m28, .ref m29, .int v30, .ref m31, .ref m32, .ref m33, .int v34, .int v35, .int v36, .ref m37, .ref m38, .ref m39, .ref m40, .long v41])), (m17, .inl (k 0, 30, .inl f17)), (m18, .inl (k 0, 250, .inl f18)), (m19, .inl (k 0, 40, .inl f19)), (m20, .inl (k 0, 120, .inl f20)), (m22, .inl (k 0, 600, .inl f22)), (m25, .inl (k 0, 4, .inl f25)), (m26, .inl (k 0, 8, .inl f26)), (m39, .inl (k 0, 44, .inl f39))] sz)) 0 0 (va_A [(mo, .inr (12, [.int v0, .ref m1, .ref m2, .ref m3, .ref m4, .ref m5, .int v6, .int v7, .int v8, .int v9, .int v10, .long v11, .int v12, .int v13, .int v14, .int v15, .ref m16, .ref m17, .ref m18, .ref m19, .ref m20, .ref m21, .ref m22, .ref m23, .int v24, .ref m25, .ref m26, .ref m27, .ref m28, .ref m29, .int v30, .ref m31, .ref m32, .ref m33, .int v34, .int v35, .int v36, .ref m37, .ref m38, .ref m39, .ref m40, .long v41])), (m17, .inl (k 0, 30, .inl f17)), (m18, .inl (k 0, 250, .inl f18)), (m19, .inl (k 0, 40, .inl f19)), (m20, .inl (k 0, 120, .inl f20)), (m22, .inl (k 0, 600, .inl f22)), (m25, .inl (k 0, 4, .inl f25)), (m26, .inl (k 0, 8, .inl f26)), (m39, .inl (k 0, 44, .inl f39))] sz) := by
  refine Met.ofW (cc := cX12_laysGame) (maxL := 3) (ret := none) (by decide +kernel) rfl ?_
  intro p e s m args below meth c s₁ B hml hv
  obtain ⟨rfl, hsz, hP, hK, hD0, hN⟩ := hv
  have hx := B.exec
  have hb := B.bytes
  have hr := B.returns
  have hts : ∀ w ∈ TT, w.before _ s = true := fun w h => atoms_spec (ws := ww yX12_laysGame cX12_laysGame 3 none) B.pre w (List.mem_cons_of_mem _ h)
  have hown : s.vm.findClass RX12 = some m.cls := findClass_of_methodNamed B.named
  have hlocks := B.notSynchronized
  subst hsz
  have hD := hD0.self (sz := s.heap.size)
  generalize hAe : va_A [(mo, .inr (12, [.int v0, .ref m1, .ref m2, .ref m3, .ref m4, .ref m5, .int v6, .int v7, .int v8, .int v9, .int v10, .long v11, .int v12, .int v13, .int v14, .int v15, .ref m16, .ref m17, .ref m18, .ref m19, .ref m20, .ref m21, .ref m22, .ref m23, .int v24, .ref m25, .ref m26, .ref m27, .ref m28, .ref m29, .int v30, .ref m31, .ref m32, .ref m33, .int v34, .int v35, .int v36, .ref m37, .ref m38, .ref m39, .ref m40, .long v41])), (m17, .inl (k 0, 30, .inl f17)), (m18, .inl (k 0, 250, .inl f18)), (m19, .inl (k 0, 40, .inl f19)), (m20, .inl (k 0, 120, .inl f20)), (m22, .inl (k 0, 600, .inl f22)), (m25, .inl (k 0, 4, .inl f25)), (m26, .inl (k 0, 8, .inl f26)), (m39, .inl (k 0, 44, .inl f39))] s.heap.size = A at hD ⊢
  have hA : ∀ q : Nat, s.heap.size ≤ q → A q := fun q h => by rw [← hAe]; exact Or.inr h
  have hS : va_S A s.heap s.heap [] := va_S.rf
  have hl := lv_entry ([.ref mo]) (n := 3) (Nat.le_of_ble_eq_true rfl)
  rw [lg_entry_eq]
  generalize (lg_sl ([.ref mo]) ++ List.replicate (3 - (lg_sl ([.ref mo])).length) Slot.unset).toArray = ls at hl ⊢
  have hl : lv_has ls 3 [(0, .ref mo)] := hl
  refine lv_aload_n hx hb dX12_laysGame_0 rfl (lv_at hl 0 rfl) ?_
  obtain ⟨hPc, hDc, hFc⟩ := sub3 hP hD hS hA (ws' := [(mo, .inr (12, [.int v0, .ref m1, .ref m2, .ref m3, .ref m4, .ref m5, .int v6, .int v7, .int v8, .int v9, .int v10, .long v11, .int v12, .int v13, .int v14, .int v15, .ref m16, .ref m17, .ref m18, .ref m19, .ref m20, .ref m21, .ref m22, .ref m23, .int v24, .ref m25, .ref m26, .ref m27, .ref m28, .ref m29, .int v30, .ref m31, .ref m32, .ref m33, .int v34, .int v35, .int v36, .ref m37, .ref m38, .ref m39, .ref m40, .long v41])), (m17, .inl (k 0, 30, .inl f17)), (m18, .inl (k 0, 250, .inl f18)), (m19, .inl (k 0, 40, .inl f19)), (m22, .inl (k 0, 600, .inl f22)), (m25, .inl (k 0, 4, .inl f25))]) [0, 1, 2, 3, 5, 6] (by decide +kernel) rfl
  refine va_callv (va_runV (C := RX12) (As := []) (rest := []) ⟨hx, hb, hml, hown, hts⟩ (c_X12_lays l D k mo v0 m1 m2 m3 m4 m5 v6 v7 v8 v9 v10 v11 v12 v13 v14 v15 m16 m17 m18 m19 m20 m21 m22 m23 v24 m25 m26 m27 m28 m29 v30 m31 m32 m33 v34 v35 v36 m37 m38 m39 m40 v41 f17 f18 f19 f22 f25 s.heap.size (show 0 ≤ v6.toInt ∧ v6.toInt ≤ 1000 from by omega) (show 0 ≤ v24.toInt ∧ v24.toInt ≤ 1023 from by omega) hp_f17_0 hp_f17_1 hp_f17_2 hp_f17_3 hp_f17_4 hp_f17_5 hp_f18_0 hp_f18_1 hp_f18_2 hp_f18_3 hp_f19_0 hp_f19_1 hp_f22_0 hp_f22_1 hp_f22_2 hp_f25_0) (cwV 0 hts (gV tw_7_103 tw_7_105 tw_p_59 tw_1_13 tw_7_106) rfl rfl rfl hdV_X12_lays ⟨Nat.le_of_ble_eq_true rfl, Nat.le_of_ble_eq_true rfl⟩) (cz_V hK hPc hDc hN (ci := 12) (q0 := 0) rfl rfl []) rfl rfl hl.1 rfl (lv_room (Nat.le_of_ble_eq_true rfl)) dX12_laysGame_1 ⟨Nat.le_of_ble_eq_true rfl, Nat.le_of_ble_eq_true rfl⟩) hS (fun q _ h => hFc q h) hFc (fun uZ tZ H1 locs ht hvm hw hB hz1 hk1 hS => ?_)
  obtain ⟨o_2, o_3⟩ := uZ
  obtain ⟨hP1, hK1, hD1⟩ := hB
  rw [ht] at hP1
  obtain ⟨hP, hD⟩ := va_join (wr := [(m20, .inl (k 0, 120, .inl f20)), (m26, .inl (k 0, 8, .inl f26)), (m39, .inl (k 0, 44, .inl f39))]) (w1 := [(mo, .inr (12, [.int v0, .ref m1, .ref m2, .ref m3, .ref m4, .ref m5, .int v6, .int v7, .int v8, .int v9, .int v10, .long v11, .int v12, .int v13, .int v14, .int v15, .ref m16, .ref m17, .ref m18, .ref m19, .ref m20, .ref m21, .ref m22, .ref m23, .int o_2, .ref m25, .ref m26, .ref m27, .ref m28, .ref m29, .int v30, .ref m31, .ref m32, .ref m33, .int v34, .int v35, .int v36, .ref m37, .ref m38, .ref m39, .ref m40, .long v41])), (m17, .inl (k 0, 30, .inl f17)), (m18, .inl (k 0, 250, .inl f18)), (m19, .inl (k 0, 40, .inl f19)), (m22, .inl (k 0, 600, .inl f22)), (m25, .inl (k 0, 4, .inl o_3))]) hP hD [0, 1, 2, 3, 5, 6] [4, 7, 8] rfl rfl (by decide +kernel) (by decide +kernel) hk1 hFc hP1 hD1
  clear hK1 hP1 hD1 hPc hDc hFc
  clear hk1 hz1 ht hvm
  have hP : va_P D vwCl [(m20, .inl (k 0, 120, .inl f20)), (m26, .inl (k 0, 8, .inl f26)), (m39, .inl (k 0, 44, .inl f39)), (mo, .inr (12, [.int v0, .ref m1, .ref m2, .ref m3, .ref m4, .ref m5, .int v6, .int v7, .int v8, .int v9, .int v10, .long v11, .int v12, .int v13, .int v14, .int v15, .ref m16, .ref m17, .ref m18, .ref m19, .ref m20, .ref m21, .ref m22, .ref m23, .int o_2, .ref m25, .ref m26, .ref m27, .ref m28, .ref m29, .int v30, .ref m31, .ref m32, .ref m33, .int v34, .int v35, .int v36, .ref m37, .ref m38, .ref m39, .ref m40, .long v41])), (m17, .inl (k 0, 30, .inl f17)), (m18, .inl (k 0, 250, .inl f18)), (m19, .inl (k 0, 40, .inl f19)), (m22, .inl (k 0, 600, .inl f22)), (m25, .inl (k 0, 4, .inl o_3))] H1 := hP
  have hD : va_D A [(m20, .inl (k 0, 120, .inl f20)), (m26, .inl (k 0, 8, .inl f26)), (m39, .inl (k 0, 44, .inl f39)), (mo, .inr (12, [.int v0, .ref m1, .ref m2, .ref m3, .ref m4, .ref m5, .int v6, .int v7, .int v8, .int v9, .int v10, .long v11, .int v12, .int v13, .int v14, .int v15, .ref m16, .ref m17, .ref m18, .ref m19, .ref m20, .ref m21, .ref m22, .ref m23, .int o_2, .ref m25, .ref m26, .ref m27, .ref m28, .ref m29, .int v30, .ref m31, .ref m32, .ref m33, .int v34, .int v35, .int v36, .ref m37, .ref m38, .ref m39, .ref m40, .long v41])), (m17, .inl (k 0, 30, .inl f17)), (m18, .inl (k 0, 250, .inl f18)), (m19, .inl (k 0, 40, .inl f19)), (m22, .inl (k 0, 600, .inl f22)), (m25, .inl (k 0, 4, .inl o_3))] := hD
  generalize H1 = H at hP hS ⊢
  have hw_4 : (0 ≤ o_2.toInt ∧ o_2.toInt ≤ 1023) ∧ (PR 4 1 0 0 99 o_3) := hw
  obtain ⟨hw_5, hw_6⟩ := hw_4
  clear hw
  refine lv_iconst (v := 0) hx hb dX12_laysGame_4 (by decide) ?_
  refine lv_istore_n (lv' := [(1, .int 0), (0, .ref mo)]) hx hb dX12_laysGame_5 rfl hl (by decide) rfl (fun ls hl => ?_)
  refine loop_r (Wg := fun H locs ls => W p l e _ s m _ below meth c H locs _ _ _ (F0 m 6 ls [])) (fun n9 H locs ls => ∃ (L6l1 : Int32) (L6a1 : Nat → Int32) (L6a2 : Nat → Int32) (L6a8 : Nat → Int32), n9 = (4 - L6l1.toInt).toNat ∧ (0 ≤ L6l1.toInt ∧ L6l1.toInt ≤ 4) ∧ (PR 8 1 0 0 100000 L6a1) ∧ (PR 4 1 0 0 99 L6a8) ∧ va_P D vwCl [(m20, .inl (k 0, 120, .inl f20)), (m26, .inl (k 0, 8, .inl L6a1)), (m39, .inl (k 0, 44, .inl L6a2)), (mo, .inr (12, [.int v0, .ref m1, .ref m2, .ref m3, .ref m4, .ref m5, .int v6, .int v7, .int v8, .int v9, .int v10, .long v11, .int v12, .int v13, .int v14, .int v15, .ref m16, .ref m17, .ref m18, .ref m19, .ref m20, .ref m21, .ref m22, .ref m23, .int o_2, .ref m25, .ref m26, .ref m27, .ref m28, .ref m29, .int v30, .ref m31, .ref m32, .ref m33, .int v34, .int v35, .int v36, .ref m37, .ref m38, .ref m39, .ref m40, .long v41])), (m17, .inl (k 0, 30, .inl f17)), (m18, .inl (k 0, 250, .inl f18)), (m19, .inl (k 0, 40, .inl f19)), (m22, .inl (k 0, 600, .inl f22)), (m25, .inl (k 0, 4, .inl L6a8))] H ∧ va_D A [(m20, .inl (k 0, 120, .inl f20)), (m26, .inl (k 0, 8, .inl L6a1)), (m39, .inl (k 0, 44, .inl L6a2)), (mo, .inr (12, [.int v0, .ref m1, .ref m2, .ref m3, .ref m4, .ref m5, .int v6, .int v7, .int v8, .int v9, .int v10, .long v11, .int v12, .int v13, .int v14, .int v15, .ref m16, .ref m17, .ref m18, .ref m19, .ref m20, .ref m21, .ref m22, .ref m23, .int o_2, .ref m25, .ref m26, .ref m27, .ref m28, .ref m29, .int v30, .ref m31, .ref m32, .ref m33, .int v34, .int v35, .int v36, .ref m37, .ref m38, .ref m39, .ref m40, .long v41])), (m17, .inl (k 0, 30, .inl f17)), (m18, .inl (k 0, 250, .inl f18)), (m19, .inl (k 0, 40, .inl f19)), (m22, .inl (k 0, 600, .inl f22)), (m25, .inl (k 0, 4, .inl L6a8))] ∧ va_S A s.heap H locs ∧ lv_has ls 3 [(0, .ref mo), (1, .int L6l1)]) (fun n9 H locs ls hI ih_7 => ?_) _ _ _ _ ⟨0, f26, f39, o_3, rfl, (show 0 ≤ 0 ∧ 0 ≤ 4 from by omega), hp_f26_0, hw_6, hP.sub (ws' := [(m20, .inl (k 0, 120, .inl f20)), (m26, .inl (k 0, 8, .inl f26)), (m39, .inl (k 0, 44, .inl f39)), (mo, .inr (12, [.int v0, .ref m1, .ref m2, .ref m3, .ref m4, .ref m5, .int v6, .int v7, .int v8, .int v9, .int v10, .long v11, .int v12, .int v13, .int v14, .int v15, .ref m16, .ref m17, .ref m18, .ref m19, .ref m20, .ref m21, .ref m22, .ref m23, .int o_2, .ref m25, .ref m26, .ref m27, .ref m28, .ref m29, .int v30, .ref m31, .ref m32, .ref m33, .int v34, .int v35, .int v36, .ref m37, .ref m38, .ref m39, .ref m40, .long v41])), (m17, .inl (k 0, 30, .inl f17)), (m18, .inl (k 0, 250, .inl f18)), (m19, .inl (k 0, 40, .inl f19)), (m22, .inl (k 0, 600, .inl f22)), (m25, .inl (k 0, 4, .inl o_3))]) [0, 1, 2, 3, 4, 5, 6, 7, 8] rfl, hD.sub (ws' := [(m20, .inl (k 0, 120, .inl f20)), (m26, .inl (k 0, 8, .inl f26)), (m39, .inl (k 0, 44, .inl f39)), (mo, .inr (12, [.int v0, .ref m1, .ref m2, .ref m3, .ref m4, .ref m5, .int v6, .int v7, .int v8, .int v9, .int v10, .long v11, .int v12, .int v13, .int v14, .int v15, .ref m16, .ref m17, .ref m18, .ref m19, .ref m20, .ref m21, .ref m22, .ref m23, .int o_2, .ref m25, .ref m26, .ref m27, .ref m28, .ref m29, .int v30, .ref m31, .ref m32, .ref m33, .int v34, .int v35, .int v36, .ref m37, .ref m38, .ref m39, .ref m40, .long v41])), (m17, .inl (k 0, 30, .inl f17)), (m18, .inl (k 0, 250, .inl f18)), (m19, .inl (k 0, 40, .inl f19)), (m22, .inl (k 0, 600, .inl f22)), (m25, .inl (k 0, 4, .inl o_3))]) [0, 1, 2, 3, 4, 5, 6, 7, 8] (by decide +kernel) rfl, hS, lv_sub hl [1, 0] rfl⟩
  clear hP hD hS hl
  obtain ⟨L6l1, L6a1, L6a2, L6a8, en_8, zL6l1, L6a1h0, L6a8h0, hP, hD, hS, hl⟩ := hI
  refine lv_iload_n hx hb dX12_laysGame_6 rfl (lv_at hl 1 rfl) ?_
  refine lv_aload_n hx hb dX12_laysGame_7 rfl (lv_at hl 0 rfl) ?_
  refine va_get (D := D) (ci := 12) (v := .ref m17) (C := RX12) (T := TX12) (N := 42) hx hb hts iT_X12 hown hK hP 3 rfl rfl 17 (by decide) (hts _ tw_6_70) (fun _ h9 => h9) rfl dX12_laysGame_8 ?_
  refine lv_iconst (v := 2) hx hb dX12_laysGame_11 (by decide) ?_
  refine va_iald hx hb hK hP 4 0 rfl rfl (z_in (by decide) (by decide)) dX12_laysGame_12 ?_
  refine lv_topi (fun x_9 ex_9 => ?_)
  have zx_9r2 : 0 ≤ x_9.toInt ∧ x_9.toInt ≤ 4 := by rw [ex_9]; exact PR.ld hp_f17_2 (by decide) (by decide) (by decide)
  refine lv_icmp_ge (tgt := 122) hx hb dX12_laysGame_13 (by decide) (fun h_10 => ?_) (fun h_10 => ?_)
  · skip
    have zh_10 : x_9.toInt ≤ L6l1.toInt := z_le h_10
    obtain ⟨hP9, hD9⟩ := sub2 hP hD (ws' := [(mo, .inr (12, [.int v0, .ref m1, .ref m2, .ref m3, .ref m4, .ref m5, .int v6, .int v7, .int v8, .int v9, .int v10, .long v11, .int v12, .int v13, .int v14, .int v15, .ref m16, .ref m17, .ref m18, .ref m19, .ref m20, .ref m21, .ref m22, .ref m23, .int o_2, .ref m25, .ref m26, .ref m27, .ref m28, .ref m29, .int v30, .ref m31, .ref m32, .ref m33, .int v34, .int v35, .int v36, .ref m37, .ref m38, .ref m39, .ref m40, .long v41])), (m17, .inl (k 0, 30, .inl f17)), (m18, .inl (k 0, 250, .inl f18)), (m19, .inl (k 0, 40, .inl f19)), (m20, .inl (k 0, 120, .inl f20)), (m22, .inl (k 0, 600, .inl f22)), (m25, .inl (k 0, 4, .inl L6a8)), (m26, .inl (k 0, 8, .inl L6a1)), (m39, .inl (k 0, 44, .inl L6a2))]) [3, 4, 5, 6, 0, 7, 8, 1, 2] (by decide +kernel) rfl
    exact W.vret hx hb hr (fun tZ ht hW => ⟨⟨(o_2, L6a8, L6a1, L6a2), rfl, ⟨(show 0 ≤ o_2.toInt ∧ o_2.toInt ≤ 1023 from by omega), L6a8h0, L6a1h0⟩, by rw [ht]; exact hP9, va_K.moved hW.alike hK, hD9⟩, hS.F ht⟩) hS.2.2 dX12_laysGame_122
  · skip
    have zh_10 : L6l1.toInt < x_9.toInt := z_nle h_10
    refine lv_aload_n hx hb dX12_laysGame_16 rfl (lv_at hl 0 rfl) ?_
    refine va_get (D := D) (ci := 12) (v := .ref m25) (C := RX12) (T := TX12) (N := 42) hx hb hts iT_X12 hown hK hP 3 rfl rfl 25 (by decide) (hts _ tw_6_78) (fun _ h9 => h9) rfl dX12_laysGame_17 ?_
    refine lv_iload_n hx hb dX12_laysGame_20 rfl (lv_at hl 1 rfl) ?_
    refine lv_dup2_11 hx hb dX12_laysGame_21 rfl rfl ?_
    refine va_iald hx hb hK hP 8 0 rfl rfl (z_in (by omega) (by omega)) dX12_laysGame_22 ?_
    refine lv_topi (fun x_11 ex_11 => ?_)
    have zx_11r0 : 0 ≤ x_11.toInt ∧ x_11.toInt ≤ 99 := by rw [ex_11]; exact PR.ld L6a8h0 (by omega) (by omega) (by omega)
    refine lv_bipush (v := 30) hx hb dX12_laysGame_23 (by decide) ?_
    refine lv_iadd hx hb dX12_laysGame_25 ?_
    refine lv_topi (fun x_12 ex_12 => ?_)
    have zx_12 : x_12.toInt = x_11.toInt + 30 := by rw [ex_12]; exact z_add rfl rfl (by omega) (by omega)
    refine va_iast hx hb hK hP hD hS 8 0 rfl rfl (z_in (by omega) (by omega)) dX12_laysGame_26 (fun H locs hP hD hS => ?_)
    obtain ⟨g_13, eg_13⟩ : ∃ z : Nat → Int32, upd L6a8 L6l1.toNatClampNeg x_12 = z := ⟨_, rfl⟩
    have hP : va_P D vwCl [(m20, .inl (k 0, 120, .inl f20)), (m26, .inl (k 0, 8, .inl L6a1)), (m39, .inl (k 0, 44, .inl L6a2)), (mo, .inr (12, [.int v0, .ref m1, .ref m2, .ref m3, .ref m4, .ref m5, .int v6, .int v7, .int v8, .int v9, .int v10, .long v11, .int v12, .int v13, .int v14, .int v15, .ref m16, .ref m17, .ref m18, .ref m19, .ref m20, .ref m21, .ref m22, .ref m23, .int o_2, .ref m25, .ref m26, .ref m27, .ref m28, .ref m29, .int v30, .ref m31, .ref m32, .ref m33, .int v34, .int v35, .int v36, .ref m37, .ref m38, .ref m39, .ref m40, .long v41])), (m17, .inl (k 0, 30, .inl f17)), (m18, .inl (k 0, 250, .inl f18)), (m19, .inl (k 0, 40, .inl f19)), (m22, .inl (k 0, 600, .inl f22)), (m25, .inl (k 0, 4, .inl (upd L6a8 L6l1.toNatClampNeg x_12)))] H := hP
    have hD : va_D A [(m20, .inl (k 0, 120, .inl f20)), (m26, .inl (k 0, 8, .inl L6a1)), (m39, .inl (k 0, 44, .inl L6a2)), (mo, .inr (12, [.int v0, .ref m1, .ref m2, .ref m3, .ref m4, .ref m5, .int v6, .int v7, .int v8, .int v9, .int v10, .long v11, .int v12, .int v13, .int v14, .int v15, .ref m16, .ref m17, .ref m18, .ref m19, .ref m20, .ref m21, .ref m22, .ref m23, .int o_2, .ref m25, .ref m26, .ref m27, .ref m28, .ref m29, .int v30, .ref m31, .ref m32, .ref m33, .int v34, .int v35, .int v36, .ref m37, .ref m38, .ref m39, .ref m40, .long v41])), (m17, .inl (k 0, 30, .inl f17)), (m18, .inl (k 0, 250, .inl f18)), (m19, .inl (k 0, 40, .inl f19)), (m22, .inl (k 0, 600, .inl f22)), (m25, .inl (k 0, 4, .inl (upd L6a8 L6l1.toNatClampNeg x_12)))] := hD
    rw [eg_13] at hP hD
    have hp_14 : PR 4 1 0 0 129 g_13 := by rw [← eg_13]; exact PR.put (PR.wk L6a8h0 (by decide) (by decide)) ⟨by omega, by omega⟩
    refine lv_iconst (v := 0) hx hb dX12_laysGame_27 (by decide) ?_
    refine lv_istore_n (lv' := [(2, .int 0), (0, .ref mo), (1, .int L6l1)]) hx hb dX12_laysGame_28 rfl hl (by decide) rfl (fun ls hl => ?_)
    refine loop_r (Wg := fun H locs ls => W p l e _ s m _ below meth c H locs _ _ _ (F0 m 29 ls [])) (fun n9 H locs ls => ∃ (L29l2 : Int32) (L29a1 : Nat → Int32) (L29a2 : Nat → Int32), n9 = (10 - L29l2.toInt).toNat ∧ (0 ≤ L29l2.toInt ∧ L29l2.toInt ≤ 10) ∧ (PR 8 1 0 0 100000 L29a1) ∧ va_P D vwCl [(m20, .inl (k 0, 120, .inl f20)), (m26, .inl (k 0, 8, .inl L29a1)), (m39, .inl (k 0, 44, .inl L29a2)), (mo, .inr (12, [.int v0, .ref m1, .ref m2, .ref m3, .ref m4, .ref m5, .int v6, .int v7, .int v8, .int v9, .int v10, .long v11, .int v12, .int v13, .int v14, .int v15, .ref m16, .ref m17, .ref m18, .ref m19, .ref m20, .ref m21, .ref m22, .ref m23, .int o_2, .ref m25, .ref m26, .ref m27, .ref m28, .ref m29, .int v30, .ref m31, .ref m32, .ref m33, .int v34, .int v35, .int v36, .ref m37, .ref m38, .ref m39, .ref m40, .long v41])), (m17, .inl (k 0, 30, .inl f17)), (m18, .inl (k 0, 250, .inl f18)), (m19, .inl (k 0, 40, .inl f19)), (m22, .inl (k 0, 600, .inl f22)), (m25, .inl (k 0, 4, .inl g_13))] H ∧ va_D A [(m20, .inl (k 0, 120, .inl f20)), (m26, .inl (k 0, 8, .inl L29a1)), (m39, .inl (k 0, 44, .inl L29a2)), (mo, .inr (12, [.int v0, .ref m1, .ref m2, .ref m3, .ref m4, .ref m5, .int v6, .int v7, .int v8, .int v9, .int v10, .long v11, .int v12, .int v13, .int v14, .int v15, .ref m16, .ref m17, .ref m18, .ref m19, .ref m20, .ref m21, .ref m22, .ref m23, .int o_2, .ref m25, .ref m26, .ref m27, .ref m28, .ref m29, .int v30, .ref m31, .ref m32, .ref m33, .int v34, .int v35, .int v36, .ref m37, .ref m38, .ref m39, .ref m40, .long v41])), (m17, .inl (k 0, 30, .inl f17)), (m18, .inl (k 0, 250, .inl f18)), (m19, .inl (k 0, 40, .inl f19)), (m22, .inl (k 0, 600, .inl f22)), (m25, .inl (k 0, 4, .inl g_13))] ∧ va_S A s.heap H locs ∧ lv_has ls 3 [(0, .ref mo), (1, .int L6l1), (2, .int L29l2)]) (fun n9 H locs ls hI ih_15 => ?_) _ _ _ _ ⟨0, L6a1, L6a2, rfl, (show 0 ≤ 0 ∧ 0 ≤ 10 from by omega), L6a1h0, hP.sub (ws' := [(m20, .inl (k 0, 120, .inl f20)), (m26, .inl (k 0, 8, .inl L6a1)), (m39, .inl (k 0, 44, .inl L6a2)), (mo, .inr (12, [.int v0, .ref m1, .ref m2, .ref m3, .ref m4, .ref m5, .int v6, .int v7, .int v8, .int v9, .int v10, .long v11, .int v12, .int v13, .int v14, .int v15, .ref m16, .ref m17, .ref m18, .ref m19, .ref m20, .ref m21, .ref m22, .ref m23, .int o_2, .ref m25, .ref m26, .ref m27, .ref m28, .ref m29, .int v30, .ref m31, .ref m32, .ref m33, .int v34, .int v35, .int v36, .ref m37, .ref m38, .ref m39, .ref m40, .long v41])), (m17, .inl (k 0, 30, .inl f17)), (m18, .inl (k 0, 250, .inl f18)), (m19, .inl (k 0, 40, .inl f19)), (m22, .inl (k 0, 600, .inl f22)), (m25, .inl (k 0, 4, .inl g_13))]) [0, 1, 2, 3, 4, 5, 6, 7, 8] rfl, hD.sub (ws' := [(m20, .inl (k 0, 120, .inl f20)), (m26, .inl (k 0, 8, .inl L6a1)), (m39, .inl (k 0, 44, .inl L6a2)), (mo, .inr (12, [.int v0, .ref m1, .ref m2, .ref m3, .ref m4, .ref m5, .int v6, .int v7, .int v8, .int v9, .int v10, .long v11, .int v12, .int v13, .int v14, .int v15, .ref m16, .ref m17, .ref m18, .ref m19, .ref m20, .ref m21, .ref m22, .ref m23, .int o_2, .ref m25, .ref m26, .ref m27, .ref m28, .ref m29, .int v30, .ref m31, .ref m32, .ref m33, .int v34, .int v35, .int v36, .ref m37, .ref m38, .ref m39, .ref m40, .long v41])), (m17, .inl (k 0, 30, .inl f17)), (m18, .inl (k 0, 250, .inl f18)), (m19, .inl (k 0, 40, .inl f19)), (m22, .inl (k 0, 600, .inl f22)), (m25, .inl (k 0, 4, .inl g_13))]) [0, 1, 2, 3, 4, 5, 6, 7, 8] (by decide +kernel) rfl, hS, lv_sub hl [1, 2, 0] rfl⟩
    clear hP hD hS hl
    obtain ⟨L29l2, L29a1, L29a2, en_16, zL29l2, L29a1h0, hP, hD, hS, hl⟩ := hI
    refine lv_iload_n hx hb dX12_laysGame_29 rfl (lv_at hl 2 rfl) ?_
    refine lv_aload_n hx hb dX12_laysGame_30 rfl (lv_at hl 0 rfl) ?_
    refine va_get (D := D) (ci := 12) (v := .ref m17) (C := RX12) (T := TX12) (N := 42) hx hb hts iT_X12 hown hK hP 3 rfl rfl 17 (by decide) (hts _ tw_6_70) (fun _ h9 => h9) rfl dX12_laysGame_31 ?_
    refine lv_iconst (v := 1) hx hb dX12_laysGame_34 (by decide) ?_
    refine va_iald hx hb hK hP 4 0 rfl rfl (z_in (by decide) (by decide)) dX12_laysGame_35 ?_
    refine lv_topi (fun x_17 ex_17 => ?_)
    have zx_17r1 : 0 ≤ x_17.toInt ∧ x_17.toInt ≤ 10 := by rw [ex_17]; exact PR.ld hp_f17_1 (by decide) (by decide) (by decide)
    refine lv_icmp_ge (tgt := 85) hx hb dX12_laysGame_36 (by decide) (fun h_18 => ?_) (fun h_18 => ?_)
    · skip
      have zh_18 : x_17.toInt ≤ L29l2.toInt := z_le h_18
      refine lv_aload_n hx hb dX12_laysGame_85 rfl (lv_at hl 0 rfl) ?_
      refine va_get (D := D) (ci := 12) (v := .ref m39) (C := RX12) (T := TX12) (N := 42) hx hb hts iT_X12 hown hK hP 3 rfl rfl 39 (by decide) (hts _ tw_6_92) (fun _ h9 => h9) rfl dX12_laysGame_86 ?_
      refine lv_bipush (v := 11) hx hb dX12_laysGame_89 (by decide) ?_
      refine lv_iload_n hx hb dX12_laysGame_91 rfl (lv_at hl 1 rfl) ?_
      refine lv_imul hx hb dX12_laysGame_92 ?_
      refine lv_topi (fun x_19 ex_19 => ?_)
      have zx_19 : x_19.toInt = 11 * L6l1.toInt := by rw [ex_19]; exact z_mul rfl rfl (by omega) (by omega)
      refine lv_bipush (v := 10) hx hb dX12_laysGame_93 (by decide) ?_
      refine lv_iadd hx hb dX12_laysGame_95 ?_
      refine lv_topi (fun x_20 ex_20 => ?_)
      have zx_20 : x_20.toInt = x_19.toInt + 10 := by rw [ex_20]; exact z_add rfl rfl (by omega) (by omega)
      refine lv_aload_n hx hb dX12_laysGame_96 rfl (lv_at hl 0 rfl) ?_
      refine lv_aload_n hx hb dX12_laysGame_97 rfl (lv_at hl 0 rfl) ?_
      refine va_get (D := D) (ci := 12) (v := .int o_2) (C := RX12) (T := TX12) (N := 42) hx hb hts iT_X12 hown hK hP 3 rfl rfl 24 (by decide) (hts _ tw_6_77) (fun _ h9 => h9) rfl dX12_laysGame_98 ?_
      obtain ⟨hPc, hDc, hFc⟩ := sub3 hP hD hS hA (ws' := [(mo, .inr (12, [.int v0, .ref m1, .ref m2, .ref m3, .ref m4, .ref m5, .int v6, .int v7, .int v8, .int v9, .int v10, .long v11, .int v12, .int v13, .int v14, .int v15, .ref m16, .ref m17, .ref m18, .ref m19, .ref m20, .ref m21, .ref m22, .ref m23, .int o_2, .ref m25, .ref m26, .ref m27, .ref m28, .ref m29, .int v30, .ref m31, .ref m32, .ref m33, .int v34, .int v35, .int v36, .ref m37, .ref m38, .ref m39, .ref m40, .long v41])), (m17, .inl (k 0, 30, .inl f17)), (m18, .inl (k 0, 250, .inl f18)), (m19, .inl (k 0, 40, .inl f19)), (m20, .inl (k 0, 120, .inl f20)), (m25, .inl (k 0, 4, .inl g_13)), (m26, .inl (k 0, 8, .inl L29a1))]) [3, 4, 5, 6, 0, 8, 1] (by decide +kernel) rfl
      refine va_calli (va_runV (C := RX12) (As := [.int o_2]) (rest := [.int x_20, .ref m39]) ⟨hx, hb, hml, hown, hts⟩ (c_X12_gladBy l D k mo o_2 v0 m1 m2 m3 m4 m5 v6 v7 v8 v9 v10 v11 v12 v13 v14 v15 m16 m17 m18 m19 m20 m21 m22 m23 o_2 m25 m26 m27 m28 m29 v30 m31 m32 m33 v34 v35 v36 m37 m38 m39 m40 v41 f17 f18 f19 f20 g_13 L29a1 H.size (show 0 ≤ v6.toInt ∧ v6.toInt ≤ 1000 from by omega) (show 0 ≤ o_2.toInt ∧ o_2.toInt ≤ 1023 from by omega) hp_f17_0 hp_f17_1 hp_f17_2 hp_f17_3 hp_f17_4 hp_f17_5 hp_f18_0 hp_f18_1 hp_f18_2 hp_f18_3 hp_f19_0 hp_f19_1 hp_f20_0 hp_14 L29a1h0) (cwV 1 hts (gV tw_8_37 tw_8_39 tw_p_80 tw_1_13 tw_8_40) rfl rfl rfl hdV_X12_gladBy ⟨Nat.le_of_ble_eq_true rfl, Nat.le_of_ble_eq_true rfl⟩) (cz_V hK hPc hDc hN (ci := 12) (q0 := 0) rfl rfl [.int o_2]) rfl rfl hl.1 rfl (lv_room (Nat.le_of_ble_eq_true rfl)) dX12_laysGame_101 ⟨Nat.le_of_ble_eq_true rfl, Nat.le_of_ble_eq_true rfl⟩) hS (fun q _ h => hFc q h) hFc (fun r_21 uZ tZ H1 locs ht hvm hw hB hz1 hk1 hS => ?_)
      obtain ⟨o_22, rfl⟩ : ∃ z, z = uZ := ⟨_, rfl⟩
      obtain ⟨hP1, hK1, hD1⟩ := hB
      rw [ht] at hP1
      obtain ⟨hP, hD⟩ := va_join (wr := [(m39, .inl (k 0, 44, .inl L29a2)), (m22, .inl (k 0, 600, .inl f22))]) (w1 := [(mo, .inr (12, [.int v0, .ref m1, .ref m2, .ref m3, .ref m4, .ref m5, .int v6, .int v7, .int v8, .int v9, .int v10, .long v11, .int v12, .int v13, .int v14, .int v15, .ref m16, .ref m17, .ref m18, .ref m19, .ref m20, .ref m21, .ref m22, .ref m23, .int o_2, .ref m25, .ref m26, .ref m27, .ref m28, .ref m29, .int v30, .ref m31, .ref m32, .ref m33, .int v34, .int v35, .int v36, .ref m37, .ref m38, .ref m39, .ref m40, .long v41])), (m17, .inl (k 0, 30, .inl f17)), (m18, .inl (k 0, 250, .inl f18)), (m19, .inl (k 0, 40, .inl f19)), (m20, .inl (k 0, 120, .inl f20)), (m25, .inl (k 0, 4, .inl g_13)), (m26, .inl (k 0, 8, .inl o_22))]) hP hD [3, 4, 5, 6, 0, 8, 1] [2, 7] rfl rfl (by decide +kernel) (by decide +kernel) hk1 hFc hP1 hD1
      clear hK1 hP1 hD1 hPc hDc hFc
      clear hk1 hz1 ht hvm
      have hP : va_P D vwCl [(m39, .inl (k 0, 44, .inl L29a2)), (m22, .inl (k 0, 600, .inl f22)), (mo, .inr (12, [.int v0, .ref m1, .ref m2, .ref m3, .ref m4, .ref m5, .int v6, .int v7, .int v8, .int v9, .int v10, .long v11, .int v12, .int v13, .int v14, .int v15, .ref m16, .ref m17, .ref m18, .ref m19, .ref m20, .ref m21, .ref m22, .ref m23, .int o_2, .ref m25, .ref m26, .ref m27, .ref m28, .ref m29, .int v30, .ref m31, .ref m32, .ref m33, .int v34, .int v35, .int v36, .ref m37, .ref m38, .ref m39, .ref m40, .long v41])), (m17, .inl (k 0, 30, .inl f17)), (m18, .inl (k 0, 250, .inl f18)), (m19, .inl (k 0, 40, .inl f19)), (m20, .inl (k 0, 120, .inl f20)), (m25, .inl (k 0, 4, .inl g_13)), (m26, .inl (k 0, 8, .inl o_22))] H1 := hP
      have hD : va_D A [(m39, .inl (k 0, 44, .inl L29a2)), (m22, .inl (k 0, 600, .inl f22)), (mo, .inr (12, [.int v0, .ref m1, .ref m2, .ref m3, .ref m4, .ref m5, .int v6, .int v7, .int v8, .int v9, .int v10, .long v11, .int v12, .int v13, .int v14, .int v15, .ref m16, .ref m17, .ref m18, .ref m19, .ref m20, .ref m21, .ref m22, .ref m23, .int o_2, .ref m25, .ref m26, .ref m27, .ref m28, .ref m29, .int v30, .ref m31, .ref m32, .ref m33, .int v34, .int v35, .int v36, .ref m37, .ref m38, .ref m39, .ref m40, .long v41])), (m17, .inl (k 0, 30, .inl f17)), (m18, .inl (k 0, 250, .inl f18)), (m19, .inl (k 0, 40, .inl f19)), (m20, .inl (k 0, 120, .inl f20)), (m25, .inl (k 0, 4, .inl g_13)), (m26, .inl (k 0, 8, .inl o_22))] := hD
      generalize H1 = H at hP hS ⊢
      have hw_23 : (PR 8 1 0 0 100000 o_22) ∧ (MN o_22) := hw
      obtain ⟨hw_24, hw_25⟩ := hw_23
      clear hw
      refine va_iast hx hb hK hP hD hS 0 0 rfl rfl (z_in (by omega) (by omega)) dX12_laysGame_104 (fun H locs hP hD hS => ?_)
      obtain ⟨g_26, eg_26⟩ : ∃ z : Nat → Int32, upd L29a2 x_20.toNatClampNeg r_21 = z := ⟨_, rfl⟩
      have hP : va_P D vwCl [(m39, .inl (k 0, 44, .inl (upd L29a2 x_20.toNatClampNeg r_21))), (m22, .inl (k 0, 600, .inl f22)), (mo, .inr (12, [.int v0, .ref m1, .ref m2, .ref m3, .ref m4, .ref m5, .int v6, .int v7, .int v8, .int v9, .int v10, .long v11, .int v12, .int v13, .int v14, .int v15, .ref m16, .ref m17, .ref m18, .ref m19, .ref m20, .ref m21, .ref m22, .ref m23, .int o_2, .ref m25, .ref m26, .ref m27, .ref m28, .ref m29, .int v30, .ref m31, .ref m32, .ref m33, .int v34, .int v35, .int v36, .ref m37, .ref m38, .ref m39, .ref m40, .long v41])), (m17, .inl (k 0, 30, .inl f17)), (m18, .inl (k 0, 250, .inl f18)), (m19, .inl (k 0, 40, .inl f19)), (m20, .inl (k 0, 120, .inl f20)), (m25, .inl (k 0, 4, .inl g_13)), (m26, .inl (k 0, 8, .inl o_22))] H := hP
      have hD : va_D A [(m39, .inl (k 0, 44, .inl (upd L29a2 x_20.toNatClampNeg r_21))), (m22, .inl (k 0, 600, .inl f22)), (mo, .inr (12, [.int v0, .ref m1, .ref m2, .ref m3, .ref m4, .ref m5, .int v6, .int v7, .int v8, .int v9, .int v10, .long v11, .int v12, .int v13, .int v14, .int v15, .ref m16, .ref m17, .ref m18, .ref m19, .ref m20, .ref m21, .ref m22, .ref m23, .int o_2, .ref m25, .ref m26, .ref m27, .ref m28, .ref m29, .int v30, .ref m31, .ref m32, .ref m33, .int v34, .int v35, .int v36, .ref m37, .ref m38, .ref m39, .ref m40, .long v41])), (m17, .inl (k 0, 30, .inl f17)), (m18, .inl (k 0, 250, .inl f18)), (m19, .inl (k 0, 40, .inl f19)), (m20, .inl (k 0, 120, .inl f20)), (m25, .inl (k 0, 4, .inl g_13)), (m26, .inl (k 0, 8, .inl o_22))] := hD
      rw [eg_26] at hP hD
      refine lv_aload_n hx hb dX12_laysGame_105 rfl (lv_at hl 0 rfl) ?_
      refine va_get (D := D) (ci := 12) (v := .ref m25) (C := RX12) (T := TX12) (N := 42) hx hb hts iT_X12 hown hK hP 2 rfl rfl 25 (by decide) (hts _ tw_6_78) (fun _ h9 => h9) rfl dX12_laysGame_106 ?_
      refine lv_iload_n hx hb dX12_laysGame_109 rfl (lv_at hl 1 rfl) ?_
      refine lv_dup2_11 hx hb dX12_laysGame_110 rfl rfl ?_
      refine va_iald hx hb hK hP 7 0 rfl rfl (z_in (by omega) (by omega)) dX12_laysGame_111 ?_
      refine lv_topi (fun x_27 ex_27 => ?_)
      obtain rfl : x_12 = x_27 := ((ex_27.trans (by rw [← eg_13]; exact pk_us))).symm
      refine lv_bipush (v := 30) hx hb dX12_laysGame_112 (by decide) ?_
      refine lv_isub hx hb dX12_laysGame_114 ?_
      refine lv_topi (fun x_28 ex_28 => ?_)
      have zx_28 : x_28.toInt = x_12.toInt - 30 := by rw [ex_28]; exact z_sub rfl rfl (by omega) (by omega)
      refine va_iast hx hb hK hP hD hS 7 0 rfl rfl (z_in (by omega) (by omega)) dX12_laysGame_115 (fun H locs hP hD hS => ?_)
      obtain ⟨g_29, eg_29⟩ : ∃ z : Nat → Int32, upd g_13 L6l1.toNatClampNeg x_28 = z := ⟨_, rfl⟩
      have hP : va_P D vwCl [(m39, .inl (k 0, 44, .inl g_26)), (m22, .inl (k 0, 600, .inl f22)), (mo, .inr (12, [.int v0, .ref m1, .ref m2, .ref m3, .ref m4, .ref m5, .int v6, .int v7, .int v8, .int v9, .int v10, .long v11, .int v12, .int v13, .int v14, .int v15, .ref m16, .ref m17, .ref m18, .ref m19, .ref m20, .ref m21, .ref m22, .ref m23, .int o_2, .ref m25, .ref m26, .ref m27, .ref m28, .ref m29, .int v30, .ref m31, .ref m32, .ref m33, .int v34, .int v35, .int v36, .ref m37, .ref m38, .ref m39, .ref m40, .long v41])), (m17, .inl (k 0, 30, .inl f17)), (m18, .inl (k 0, 250, .inl f18)), (m19, .inl (k 0, 40, .inl f19)), (m20, .inl (k 0, 120, .inl f20)), (m25, .inl (k 0, 4, .inl (upd g_13 L6l1.toNatClampNeg x_28))), (m26, .inl (k 0, 8, .inl o_22))] H := hP
      have hD : va_D A [(m39, .inl (k 0, 44, .inl g_26)), (m22, .inl (k 0, 600, .inl f22)), (mo, .inr (12, [.int v0, .ref m1, .ref m2, .ref m3, .ref m4, .ref m5, .int v6, .int v7, .int v8, .int v9, .int v10, .long v11, .int v12, .int v13, .int v14, .int v15, .ref m16, .ref m17, .ref m18, .ref m19, .ref m20, .ref m21, .ref m22, .ref m23, .int o_2, .ref m25, .ref m26, .ref m27, .ref m28, .ref m29, .int v30, .ref m31, .ref m32, .ref m33, .int v34, .int v35, .int v36, .ref m37, .ref m38, .ref m39, .ref m40, .long v41])), (m17, .inl (k 0, 30, .inl f17)), (m18, .inl (k 0, 250, .inl f18)), (m19, .inl (k 0, 40, .inl f19)), (m20, .inl (k 0, 120, .inl f20)), (m25, .inl (k 0, 4, .inl (upd g_13 L6l1.toNatClampNeg x_28))), (m26, .inl (k 0, 8, .inl o_22))] := hD
      rw [eg_29] at hP hD
      have hp_30 : PR 4 1 0 0 129 g_29 := by rw [← eg_29]; exact PR.put hp_14 ⟨by omega, by omega⟩
      have hp_31 : PR 4 1 0 0 99 g_29 := by rw [← eg_29, ← eg_13]; exact PR.put2 L6a8h0 ⟨by omega, by omega⟩
      obtain ⟨x_32, ex_32⟩ : ∃ y : Int32, y = L6l1 + 1 := ⟨_, rfl⟩
      have zx_32 : x_32.toInt = L6l1.toInt + 1 := by rw [ex_32]; exact z_add rfl rfl (by omega) (by omega)
      refine lv_iinc (v := x_32) (lv' := [(1, .int x_32), (0, .ref mo), (2, .int L29l2)]) hx hb dX12_laysGame_116 hl (k := 1) rfl (by rw [ex_32]; rfl) (by decide) rfl (fun ls hl => ?_)
      refine lv_goto (tgt := 6) hx hb dX12_laysGame_119 (by decide) ?_
      exact ih_7 _ _ _ _ (by omega) ⟨x_32, o_22, g_26, g_29, rfl, (show 0 ≤ x_32.toInt ∧ x_32.toInt ≤ 4 from by omega), hw_24, hp_31, hP.sub (ws' := [(m20, .inl (k 0, 120, .inl f20)), (m26, .inl (k 0, 8, .inl o_22)), (m39, .inl (k 0, 44, .inl g_26)), (mo, .inr (12, [.int v0, .ref m1, .ref m2, .ref m3, .ref m4, .ref m5, .int v6, .int v7, .int v8, .int v9, .int v10, .long v11, .int v12, .int v13, .int v14, .int v15, .ref m16, .ref m17, .ref m18, .ref m19, .ref m20, .ref m21, .ref m22, .ref m23, .int o_2, .ref m25, .ref m26, .ref m27, .ref m28, .ref m29, .int v30, .ref m31, .ref m32, .ref m33, .int v34, .int v35, .int v36, .ref m37, .ref m38, .ref m39, .ref m40, .long v41])), (m17, .inl (k 0, 30, .inl f17)), (m18, .inl (k 0, 250, .inl f18)), (m19, .inl (k 0, 40, .inl f19)), (m22, .inl (k 0, 600, .inl f22)), (m25, .inl (k 0, 4, .inl g_29))]) [6, 8, 0, 2, 3, 4, 5, 1, 7] rfl, hD.sub (ws' := [(m20, .inl (k 0, 120, .inl f20)), (m26, .inl (k 0, 8, .inl o_22)), (m39, .inl (k 0, 44, .inl g_26)), (mo, .inr (12, [.int v0, .ref m1, .ref m2, .ref m3, .ref m4, .ref m5, .int v6, .int v7, .int v8, .int v9, .int v10, .long v11, .int v12, .int v13, .int v14, .int v15, .ref m16, .ref m17, .ref m18, .ref m19, .ref m20, .ref m21, .ref m22, .ref m23, .int o_2, .ref m25, .ref m26, .ref m27, .ref m28, .ref m29, .int v30, .ref m31, .ref m32, .ref m33, .int v34, .int v35, .int v36, .ref m37, .ref m38, .ref m39, .ref m40, .long v41])), (m17, .inl (k 0, 30, .inl f17)), (m18, .inl (k 0, 250, .inl f18)), (m19, .inl (k 0, 40, .inl f19)), (m22, .inl (k 0, 600, .inl f22)), (m25, .inl (k 0, 4, .inl g_29))]) [6, 8, 0, 2, 3, 4, 5, 1, 7] (by decide +kernel) rfl, hS, lv_sub hl [1, 0] rfl⟩
    · skip
      have zh_18 : L29l2.toInt < x_17.toInt := z_nle h_18
      refine lv_aload_n hx hb dX12_laysGame_39 rfl (lv_at hl 0 rfl) ?_
      refine va_get (D := D) (ci := 12) (v := .ref m39) (C := RX12) (T := TX12) (N := 42) hx hb hts iT_X12 hown hK hP 3 rfl rfl 39 (by decide) (hts _ tw_6_92) (fun _ h9 => h9) rfl dX12_laysGame_40 ?_
      refine lv_bipush (v := 11) hx hb dX12_laysGame_43 (by decide) ?_
      refine lv_iload_n hx hb dX12_laysGame_45 rfl (lv_at hl 1 rfl) ?_
      refine lv_imul hx hb dX12_laysGame_46 ?_
      refine lv_topi (fun x_33 ex_33 => ?_)
      have zx_33 : x_33.toInt = 11 * L6l1.toInt := by rw [ex_33]; exact z_mul rfl rfl (by omega) (by omega)
      refine lv_iload_n hx hb dX12_laysGame_47 rfl (lv_at hl 2 rfl) ?_
      refine lv_iadd hx hb dX12_laysGame_48 ?_
      refine lv_topi (fun x_34 ex_34 => ?_)
      have zx_34 : x_34.toInt = x_33.toInt + L29l2.toInt := by rw [ex_34]; exact z_add rfl rfl (by omega) (by omega)
      refine lv_aload_n hx hb dX12_laysGame_49 rfl (lv_at hl 0 rfl) ?_
      refine va_get (D := D) (ci := 12) (v := .int o_2) (C := RX12) (T := TX12) (N := 42) hx hb hts iT_X12 hown hK hP 3 rfl rfl 24 (by decide) (hts _ tw_6_77) (fun _ h9 => h9) rfl dX12_laysGame_50 ?_
      refine lv_iload_n hx hb dX12_laysGame_53 rfl (lv_at hl 2 rfl) ?_
      obtain ⟨hPc, hDc, hFc⟩ := sub3 hP hD hS hA (ws' := []) [] (by decide +kernel) rfl
      refine va_calli (va_runS (As := [.int o_2, .int L29l2]) (rest := [.int x_34, .ref m39]) ⟨hx, hb, hml, hown, hts⟩ (c_X12_isBit l D k o_2 L29l2 H.size) (va_cwS 2 hts (gS tw_7_107 tw_7_108 tw_1_13 tw_7_109) rfl rfl rfl hdS_X12_isBit ⟨Nat.le_of_ble_eq_true rfl, Nat.le_of_ble_eq_true rfl⟩) (cz_S hK hPc hDc hN [.int o_2, .int L29l2]) rfl rfl hl.1 rfl (lv_room (Nat.le_of_ble_eq_true rfl)) dX12_laysGame_54 ⟨Nat.le_of_ble_eq_true rfl, Nat.le_of_ble_eq_true rfl⟩) hS (fun q _ h => hFc q h) hFc (fun r_35 uZ tZ H1 locs ht hvm hw hB hz1 hk1 hS => ?_)
      obtain ⟨hP1, hK1, hD1⟩ := hB
      rw [ht] at hP1
      obtain ⟨hP, hD⟩ := va_join (wr := [(m20, .inl (k 0, 120, .inl f20)), (m26, .inl (k 0, 8, .inl L29a1)), (m39, .inl (k 0, 44, .inl L29a2)), (mo, .inr (12, [.int v0, .ref m1, .ref m2, .ref m3, .ref m4, .ref m5, .int v6, .int v7, .int v8, .int v9, .int v10, .long v11, .int v12, .int v13, .int v14, .int v15, .ref m16, .ref m17, .ref m18, .ref m19, .ref m20, .ref m21, .ref m22, .ref m23, .int o_2, .ref m25, .ref m26, .ref m27, .ref m28, .ref m29, .int v30, .ref m31, .ref m32, .ref m33, .int v34, .int v35, .int v36, .ref m37, .ref m38, .ref m39, .ref m40, .long v41])), (m17, .inl (k 0, 30, .inl f17)), (m18, .inl (k 0, 250, .inl f18)), (m19, .inl (k 0, 40, .inl f19)), (m22, .inl (k 0, 600, .inl f22)), (m25, .inl (k 0, 4, .inl g_13))]) (w1 := []) hP hD [] [0, 1, 2, 3, 4, 5, 6, 7, 8] rfl rfl (by decide +kernel) (by decide +kernel) hk1 hFc hP1 hD1
      clear hK1 hP1 hD1 hPc hDc hFc
      clear hk1 hz1 ht hvm
      have hP : va_P D vwCl [(m20, .inl (k 0, 120, .inl f20)), (m26, .inl (k 0, 8, .inl L29a1)), (m39, .inl (k 0, 44, .inl L29a2)), (mo, .inr (12, [.int v0, .ref m1, .ref m2, .ref m3, .ref m4, .ref m5, .int v6, .int v7, .int v8, .int v9, .int v10, .long v11, .int v12, .int v13, .int v14, .int v15, .ref m16, .ref m17, .ref m18, .ref m19, .ref m20, .ref m21, .ref m22, .ref m23, .int o_2, .ref m25, .ref m26, .ref m27, .ref m28, .ref m29, .int v30, .ref m31, .ref m32, .ref m33, .int v34, .int v35, .int v36, .ref m37, .ref m38, .ref m39, .ref m40, .long v41])), (m17, .inl (k 0, 30, .inl f17)), (m18, .inl (k 0, 250, .inl f18)), (m19, .inl (k 0, 40, .inl f19)), (m22, .inl (k 0, 600, .inl f22)), (m25, .inl (k 0, 4, .inl g_13))] H1 := hP
      have hD : va_D A [(m20, .inl (k 0, 120, .inl f20)), (m26, .inl (k 0, 8, .inl L29a1)), (m39, .inl (k 0, 44, .inl L29a2)), (mo, .inr (12, [.int v0, .ref m1, .ref m2, .ref m3, .ref m4, .ref m5, .int v6, .int v7, .int v8, .int v9, .int v10, .long v11, .int v12, .int v13, .int v14, .int v15, .ref m16, .ref m17, .ref m18, .ref m19, .ref m20, .ref m21, .ref m22, .ref m23, .int o_2, .ref m25, .ref m26, .ref m27, .ref m28, .ref m29, .int v30, .ref m31, .ref m32, .ref m33, .int v34, .int v35, .int v36, .ref m37, .ref m38, .ref m39, .ref m40, .long v41])), (m17, .inl (k 0, 30, .inl f17)), (m18, .inl (k 0, 250, .inl f18)), (m19, .inl (k 0, 40, .inl f19)), (m22, .inl (k 0, 600, .inl f22)), (m25, .inl (k 0, 4, .inl g_13))] := hD
      generalize H1 = H at hP hS ⊢
      have hw_36 : (0 ≤ r_35.toInt ∧ r_35.toInt ≤ 1) ∧ (r_35 = bitOf o_2 L29l2) := hw
      obtain ⟨hw_37, hw_38⟩ := hw_36
      clear hw
      refine lv_if_eq (tgt := 77) hx hb dX12_laysGame_57 (by decide) (fun h_39 => ?_) (fun h_39 => ?_)
      · skip
        have zh_39 : r_35.toInt = 0 := z_eq h_39
        refine lv_iconst (v := (-1)) hx hb dX12_laysGame_77 (by decide) ?_
        refine va_iast hx hb hK hP hD hS 2 0 rfl rfl (z_in (by omega) (by omega)) dX12_laysGame_78 (fun H locs hP hD hS => ?_)
        obtain ⟨g_40, eg_40⟩ : ∃ z : Nat → Int32, upd L29a2 x_34.toNatClampNeg (-1) = z := ⟨_, rfl⟩
        have hP : va_P D vwCl [(m20, .inl (k 0, 120, .inl f20)), (m26, .inl (k 0, 8, .inl L29a1)), (m39, .inl (k 0, 44, .inl (upd L29a2 x_34.toNatClampNeg (-1)))), (mo, .inr (12, [.int v0, .ref m1, .ref m2, .ref m3, .ref m4, .ref m5, .int v6, .int v7, .int v8, .int v9, .int v10, .long v11, .int v12, .int v13, .int v14, .int v15, .ref m16, .ref m17, .ref m18, .ref m19, .ref m20, .ref m21, .ref m22, .ref m23, .int o_2, .ref m25, .ref m26, .ref m27, .ref m28, .ref m29, .int v30, .ref m31, .ref m32, .ref m33, .int v34, .int v35, .int v36, .ref m37, .ref m38, .ref m39, .ref m40, .long v41])), (m17, .inl (k 0, 30, .inl f17)), (m18, .inl (k 0, 250, .inl f18)), (m19, .inl (k 0, 40, .inl f19)), (m22, .inl (k 0, 600, .inl f22)), (m25, .inl (k 0, 4, .inl g_13))] H := hP
        have hD : va_D A [(m20, .inl (k 0, 120, .inl f20)), (m26, .inl (k 0, 8, .inl L29a1)), (m39, .inl (k 0, 44, .inl (upd L29a2 x_34.toNatClampNeg (-1)))), (mo, .inr (12, [.int v0, .ref m1, .ref m2, .ref m3, .ref m4, .ref m5, .int v6, .int v7, .int v8, .int v9, .int v10, .long v11, .int v12, .int v13, .int v14, .int v15, .ref m16, .ref m17, .ref m18, .ref m19, .ref m20, .ref m21, .ref m22, .ref m23, .int o_2, .ref m25, .ref m26, .ref m27, .ref m28, .ref m29, .int v30, .ref m31, .ref m32, .ref m33, .int v34, .int v35, .int v36, .ref m37, .ref m38, .ref m39, .ref m40, .long v41])), (m17, .inl (k 0, 30, .inl f17)), (m18, .inl (k 0, 250, .inl f18)), (m19, .inl (k 0, 40, .inl f19)), (m22, .inl (k 0, 600, .inl f22)), (m25, .inl (k 0, 4, .inl g_13))] := hD
        rw [eg_40] at hP hD
        obtain ⟨x_41, ex_41⟩ : ∃ y : Int32, y = L29l2 + 1 := ⟨_, rfl⟩
        have zx_41 : x_41.toInt = L29l2.toInt + 1 := by rw [ex_41]; exact z_add rfl rfl (by omega) (by omega)
        refine lv_iinc (v := x_41) (lv' := [(2, .int x_41), (0, .ref mo), (1, .int L6l1)]) hx hb dX12_laysGame_79 hl (k := 2) rfl (by rw [ex_41]; rfl) (by decide) rfl (fun ls hl => ?_)
        refine lv_goto (tgt := 29) hx hb dX12_laysGame_82 (by decide) ?_
        exact ih_15 _ _ _ _ (by omega) ⟨x_41, L29a1, g_40, rfl, (show 0 ≤ x_41.toInt ∧ x_41.toInt ≤ 10 from by omega), L29a1h0, hP.sub (ws' := [(m20, .inl (k 0, 120, .inl f20)), (m26, .inl (k 0, 8, .inl L29a1)), (m39, .inl (k 0, 44, .inl g_40)), (mo, .inr (12, [.int v0, .ref m1, .ref m2, .ref m3, .ref m4, .ref m5, .int v6, .int v7, .int v8, .int v9, .int v10, .long v11, .int v12, .int v13, .int v14, .int v15, .ref m16, .ref m17, .ref m18, .ref m19, .ref m20, .ref m21, .ref m22, .ref m23, .int o_2, .ref m25, .ref m26, .ref m27, .ref m28, .ref m29, .int v30, .ref m31, .ref m32, .ref m33, .int v34, .int v35, .int v36, .ref m37, .ref m38, .ref m39, .ref m40, .long v41])), (m17, .inl (k 0, 30, .inl f17)), (m18, .inl (k 0, 250, .inl f18)), (m19, .inl (k 0, 40, .inl f19)), (m22, .inl (k 0, 600, .inl f22)), (m25, .inl (k 0, 4, .inl g_13))]) [0, 1, 2, 3, 4, 5, 6, 7, 8] rfl, hD.sub (ws' := [(m20, .inl (k 0, 120, .inl f20)), (m26, .inl (k 0, 8, .inl L29a1)), (m39, .inl (k 0, 44, .inl g_40)), (mo, .inr (12, [.int v0, .ref m1, .ref m2, .ref m3, .ref m4, .ref m5, .int v6, .int v7, .int v8, .int v9, .int v10, .long v11, .int v12, .int v13, .int v14, .int v15, .ref m16, .ref m17, .ref m18, .ref m19, .ref m20, .ref m21, .ref m22, .ref m23, .int o_2, .ref m25, .ref m26, .ref m27, .ref m28, .ref m29, .int v30, .ref m31, .ref m32, .ref m33, .int v34, .int v35, .int v36, .ref m37, .ref m38, .ref m39, .ref m40, .long v41])), (m17, .inl (k 0, 30, .inl f17)), (m18, .inl (k 0, 250, .inl f18)), (m19, .inl (k 0, 40, .inl f19)), (m22, .inl (k 0, 600, .inl f22)), (m25, .inl (k 0, 4, .inl g_13))]) [0, 1, 2, 3, 4, 5, 6, 7, 8] (by decide +kernel) rfl, hS, lv_sub hl [1, 2, 0] rfl⟩
      · skip
        have zh_39 : ¬ r_35.toInt = 0 := z_ne h_39
        refine lv_aload_n hx hb dX12_laysGame_60 rfl (lv_at hl 0 rfl) ?_
        refine lv_aload_n hx hb dX12_laysGame_61 rfl (lv_at hl 0 rfl) ?_
        refine va_get (D := D) (ci := 12) (v := .int o_2) (C := RX12) (T := TX12) (N := 42) hx hb hts iT_X12 hown hK hP 3 rfl rfl 24 (by decide) (hts _ tw_6_77) (fun _ h9 => h9) rfl dX12_laysGame_62 ?_
        refine lv_iconst (v := 1) hx hb dX12_laysGame_65 (by decide) ?_
        refine lv_iload_n hx hb dX12_laysGame_66 rfl (lv_at hl 2 rfl) ?_
        refine lv_ishl hx hb dX12_laysGame_67 ?_
        refine lv_topi (fun x_42 ex_42 => ?_)
        have zx_42 : 1 ≤ x_42.toInt ∧ x_42.toInt ≤ 512 := by rw [ex_42]; exact z_shl1 9 512 rfl (by decide) (by omega) (by omega)
        refine lv_iconst (v := (-1)) hx hb dX12_laysGame_68 (by decide) ?_
        refine lv_ixor hx hb dX12_laysGame_69 ?_
        refine lv_topi (fun x_43 ex_43 => ?_)
        refine lv_iand hx hb dX12_laysGame_70 ?_
        refine lv_topi (fun x_44 ex_44 => ?_)
        have zrx_43 := z_rng x_43
        have zx_44 : 0 ≤ x_44.toInt ∧ x_44.toInt ≤ o_2.toInt := by rw [ex_44]; exact z_andL (by omega)
        obtain ⟨hPc, hDc, hFc⟩ := sub3 hP hD hS hA (ws' := [(mo, .inr (12, [.int v0, .ref m1, .ref m2, .ref m3, .ref m4, .ref m5, .int v6, .int v7, .int v8, .int v9, .int v10, .long v11, .int v12, .int v13, .int v14, .int v15, .ref m16, .ref m17, .ref m18, .ref m19, .ref m20, .ref m21, .ref m22, .ref m23, .int o_2, .ref m25, .ref m26, .ref m27, .ref m28, .ref m29, .int v30, .ref m31, .ref m32, .ref m33, .int v34, .int v35, .int v36, .ref m37, .ref m38, .ref m39, .ref m40, .long v41])), (m17, .inl (k 0, 30, .inl f17)), (m18, .inl (k 0, 250, .inl f18)), (m19, .inl (k 0, 40, .inl f19)), (m20, .inl (k 0, 120, .inl f20)), (m25, .inl (k 0, 4, .inl g_13)), (m26, .inl (k 0, 8, .inl L29a1))]) [3, 4, 5, 6, 0, 8, 1] (by decide +kernel) rfl
        refine va_calli (va_runV (C := RX12) (As := [.int x_44]) (rest := [.int x_34, .ref m39]) ⟨hx, hb, hml, hown, hts⟩ (c_X12_gladBy l D k mo x_44 v0 m1 m2 m3 m4 m5 v6 v7 v8 v9 v10 v11 v12 v13 v14 v15 m16 m17 m18 m19 m20 m21 m22 m23 o_2 m25 m26 m27 m28 m29 v30 m31 m32 m33 v34 v35 v36 m37 m38 m39 m40 v41 f17 f18 f19 f20 g_13 L29a1 H.size (show 0 ≤ v6.toInt ∧ v6.toInt ≤ 1000 from by omega) (show 0 ≤ o_2.toInt ∧ o_2.toInt ≤ 1023 from by omega) hp_f17_0 hp_f17_1 hp_f17_2 hp_f17_3 hp_f17_4 hp_f17_5 hp_f18_0 hp_f18_1 hp_f18_2 hp_f18_3 hp_f19_0 hp_f19_1 hp_f20_0 hp_14 L29a1h0) (cwV 1 hts (gV tw_8_37 tw_8_39 tw_p_80 tw_1_13 tw_8_40) rfl rfl rfl hdV_X12_gladBy ⟨Nat.le_of_ble_eq_true rfl, Nat.le_of_ble_eq_true rfl⟩) (cz_V hK hPc hDc hN (ci := 12) (q0 := 0) rfl rfl [.int x_44]) rfl rfl hl.1 rfl (lv_room (Nat.le_of_ble_eq_true rfl)) dX12_laysGame_71 ⟨Nat.le_of_ble_eq_true rfl, Nat.le_of_ble_eq_true rfl⟩) hS (fun q _ h => hFc q h) hFc (fun r_45 uZ tZ H1 locs ht hvm hw hB hz1 hk1 hS => ?_)
        obtain ⟨o_46, rfl⟩ : ∃ z, z = uZ := ⟨_, rfl⟩
        obtain ⟨hP1, hK1, hD1⟩ := hB
        rw [ht] at hP1
        obtain ⟨hP, hD⟩ := va_join (wr := [(m39, .inl (k 0, 44, .inl L29a2)), (m22, .inl (k 0, 600, .inl f22))]) (w1 := [(mo, .inr (12, [.int v0, .ref m1, .ref m2, .ref m3, .ref m4, .ref m5, .int v6, .int v7, .int v8, .int v9, .int v10, .long v11, .int v12, .int v13, .int v14, .int v15, .ref m16, .ref m17, .ref m18, .ref m19, .ref m20, .ref m21, .ref m22, .ref m23, .int o_2, .ref m25, .ref m26, .ref m27, .ref m28, .ref m29, .int v30, .ref m31, .ref m32, .ref m33, .int v34, .int v35, .int v36, .ref m37, .ref m38, .ref m39, .ref m40, .long v41])), (m17, .inl (k 0, 30, .inl f17)), (m18, .inl (k 0, 250, .inl f18)), (m19, .inl (k 0, 40, .inl f19)), (m20, .inl (k 0, 120, .inl f20)), (m25, .inl (k 0, 4, .inl g_13)), (m26, .inl (k 0, 8, .inl o_46))]) hP hD [3, 4, 5, 6, 0, 8, 1] [2, 7] rfl rfl (by decide +kernel) (by decide +kernel) hk1 hFc hP1 hD1
        clear hK1 hP1 hD1 hPc hDc hFc
        clear hk1 hz1 ht hvm
        have hP : va_P D vwCl [(m39, .inl (k 0, 44, .inl L29a2)), (m22, .inl (k 0, 600, .inl f22)), (mo, .inr (12, [.int v0, .ref m1, .ref m2, .ref m3, .ref m4, .ref m5, .int v6, .int v7, .int v8, .int v9, .int v10, .long v11, .int v12, .int v13, .int v14, .int v15, .ref m16, .ref m17, .ref m18, .ref m19, .ref m20, .ref m21, .ref m22, .ref m23, .int o_2, .ref m25, .ref m26, .ref m27, .ref m28, .ref m29, .int v30, .ref m31, .ref m32, .ref m33, .int v34, .int v35, .int v36, .ref m37, .ref m38, .ref m39, .ref m40, .long v41])), (m17, .inl (k 0, 30, .inl f17)), (m18, .inl (k 0, 250, .inl f18)), (m19, .inl (k 0, 40, .inl f19)), (m20, .inl (k 0, 120, .inl f20)), (m25, .inl (k 0, 4, .inl g_13)), (m26, .inl (k 0, 8, .inl o_46))] H1 := hP
        have hD : va_D A [(m39, .inl (k 0, 44, .inl L29a2)), (m22, .inl (k 0, 600, .inl f22)), (mo, .inr (12, [.int v0, .ref m1, .ref m2, .ref m3, .ref m4, .ref m5, .int v6, .int v7, .int v8, .int v9, .int v10, .long v11, .int v12, .int v13, .int v14, .int v15, .ref m16, .ref m17, .ref m18, .ref m19, .ref m20, .ref m21, .ref m22, .ref m23, .int o_2, .ref m25, .ref m26, .ref m27, .ref m28, .ref m29, .int v30, .ref m31, .ref m32, .ref m33, .int v34, .int v35, .int v36, .ref m37, .ref m38, .ref m39, .ref m40, .long v41])), (m17, .inl (k 0, 30, .inl f17)), (m18, .inl (k 0, 250, .inl f18)), (m19, .inl (k 0, 40, .inl f19)), (m20, .inl (k 0, 120, .inl f20)), (m25, .inl (k 0, 4, .inl g_13)), (m26, .inl (k 0, 8, .inl o_46))] := hD
        generalize H1 = H at hP hS ⊢
        have hw_47 : (PR 8 1 0 0 100000 o_46) ∧ (MN o_46) := hw
        obtain ⟨hw_48, hw_49⟩ := hw_47
        clear hw
        refine lv_goto (tgt := 78) hx hb dX12_laysGame_74 (by decide) ?_
        refine va_iast hx hb hK hP hD hS 0 0 rfl rfl (z_in (by omega) (by omega)) dX12_laysGame_78 (fun H locs hP hD hS => ?_)
        obtain ⟨g_50, eg_50⟩ : ∃ z : Nat → Int32, upd L29a2 x_34.toNatClampNeg r_45 = z := ⟨_, rfl⟩
        have hP : va_P D vwCl [(m39, .inl (k 0, 44, .inl (upd L29a2 x_34.toNatClampNeg r_45))), (m22, .inl (k 0, 600, .inl f22)), (mo, .inr (12, [.int v0, .ref m1, .ref m2, .ref m3, .ref m4, .ref m5, .int v6, .int v7, .int v8, .int v9, .int v10, .long v11, .int v12, .int v13, .int v14, .int v15, .ref m16, .ref m17, .ref m18, .ref m19, .ref m20, .ref m21, .ref m22, .ref m23, .int o_2, .ref m25, .ref m26, .ref m27, .ref m28, .ref m29, .int v30, .ref m31, .ref m32, .ref m33, .int v34, .int v35, .int v36, .ref m37, .ref m38, .ref m39, .ref m40, .long v41])), (m17, .inl (k 0, 30, .inl f17)), (m18, .inl (k 0, 250, .inl f18)), (m19, .inl (k 0, 40, .inl f19)), (m20, .inl (k 0, 120, .inl f20)), (m25, .inl (k 0, 4, .inl g_13)), (m26, .inl (k 0, 8, .inl o_46))] H := hP
        have hD : va_D A [(m39, .inl (k 0, 44, .inl (upd L29a2 x_34.toNatClampNeg r_45))), (m22, .inl (k 0, 600, .inl f22)), (mo, .inr (12, [.int v0, .ref m1, .ref m2, .ref m3, .ref m4, .ref m5, .int v6, .int v7, .int v8, .int v9, .int v10, .long v11, .int v12, .int v13, .int v14, .int v15, .ref m16, .ref m17, .ref m18, .ref m19, .ref m20, .ref m21, .ref m22, .ref m23, .int o_2, .ref m25, .ref m26, .ref m27, .ref m28, .ref m29, .int v30, .ref m31, .ref m32, .ref m33, .int v34, .int v35, .int v36, .ref m37, .ref m38, .ref m39, .ref m40, .long v41])), (m17, .inl (k 0, 30, .inl f17)), (m18, .inl (k 0, 250, .inl f18)), (m19, .inl (k 0, 40, .inl f19)), (m20, .inl (k 0, 120, .inl f20)), (m25, .inl (k 0, 4, .inl g_13)), (m26, .inl (k 0, 8, .inl o_46))] := hD
        rw [eg_50] at hP hD
        obtain ⟨x_51, ex_51⟩ : ∃ y : Int32, y = L29l2 + 1 := ⟨_, rfl⟩
        have zx_51 : x_51.toInt = L29l2.toInt + 1 := by rw [ex_51]; exact z_add rfl rfl (by omega) (by omega)
        refine lv_iinc (v := x_51) (lv' := [(2, .int x_51), (0, .ref mo), (1, .int L6l1)]) hx hb dX12_laysGame_79 hl (k := 2) rfl (by rw [ex_51]; rfl) (by decide) rfl (fun ls hl => ?_)
        refine lv_goto (tgt := 29) hx hb dX12_laysGame_82 (by decide) ?_
        exact ih_15 _ _ _ _ (by omega) ⟨x_51, o_46, g_50, rfl, (show 0 ≤ x_51.toInt ∧ x_51.toInt ≤ 10 from by omega), hw_48, hP.sub (ws' := [(m20, .inl (k 0, 120, .inl f20)), (m26, .inl (k 0, 8, .inl o_46)), (m39, .inl (k 0, 44, .inl g_50)), (mo, .inr (12, [.int v0, .ref m1, .ref m2, .ref m3, .ref m4, .ref m5, .int v6, .int v7, .int v8, .int v9, .int v10, .long v11, .int v12, .int v13, .int v14, .int v15, .ref m16, .ref m17, .ref m18, .ref m19, .ref m20, .ref m21, .ref m22, .ref m23, .int o_2, .ref m25, .ref m26, .ref m27, .ref m28, .ref m29, .int v30, .ref m31, .ref m32, .ref m33, .int v34, .int v35, .int v36, .ref m37, .ref m38, .ref m39, .ref m40, .long v41])), (m17, .inl (k 0, 30, .inl f17)), (m18, .inl (k 0, 250, .inl f18)), (m19, .inl (k 0, 40, .inl f19)), (m22, .inl (k 0, 600, .inl f22)), (m25, .inl (k 0, 4, .inl g_13))]) [6, 8, 0, 2, 3, 4, 5, 1, 7] rfl, hD.sub (ws' := [(m20, .inl (k 0, 120, .inl f20)), (m26, .inl (k 0, 8, .inl o_46)), (m39, .inl (k 0, 44, .inl g_50)), (mo, .inr (12, [.int v0, .ref m1, .ref m2, .ref m3, .ref m4, .ref m5, .int v6, .int v7, .int v8, .int v9, .int v10, .long v11, .int v12, .int v13, .int v14, .int v15, .ref m16, .ref m17, .ref m18, .ref m19, .ref m20, .ref m21, .ref m22, .ref m23, .int o_2, .ref m25, .ref m26, .ref m27, .ref m28, .ref m29, .int v30, .ref m31, .ref m32, .ref m33, .int v34, .int v35, .int v36, .ref m37, .ref m38, .ref m39, .ref m40, .long v41])), (m17, .inl (k 0, 30, .inl f17)), (m18, .inl (k 0, 250, .inl f18)), (m19, .inl (k 0, 40, .inl f19)), (m22, .inl (k 0, 600, .inl f22)), (m25, .inl (k 0, 4, .inl g_13))]) [6, 8, 0, 2, 3, 4, 5, 1, 7] (by decide +kernel) rfl, hS, lv_sub hl [1, 2, 0] rfl⟩
set_option maxHeartbeats 4000000 in
set_option maxRecDepth 100000 in
theorem c_X12_rests (l : Launch) (D : va_G) (k : Nat → ClassId) (mo : Nat) (v0 : Int32) (m1 : Nat) (m2 : Nat) (m3 : Nat) (m4 : Nat) (m5 : Nat) (v6 : Int32) (v7 : Int32) (v8 : Int32) (v9 : Int32) (v10 : Int32) (v11 : Int64) (v12 : Int32) (v13 : Int32) (v14 : Int32) (v15 : Int32) (m16 : Nat) (m17 : Nat) (m18 : Nat) (m19 : Nat) (m20 : Nat) (m21 : Nat) (m22 : Nat) (m23 : Nat) (v24 : Int32) (m25 : Nat) (m26 : Nat) (m27 : Nat) (m28 : Nat) (m29 : Nat) (v30 : Int32) (m31 : Nat) (m32 : Nat) (m33 : Nat) (v34 : Int32) (v35 : Int32) (v36 : Int32) (m37 : Nat) (m38 : Nat) (m39 : Nat) (m40 : Nat) (v41 : Int64) (f16 : Nat → Int32) (f17 : Nat → Int32) (f18 : Nat → Int32) (f19 : Nat → Int32) (f20 : Nat → Int32) (f22 : Nat → Int32) (f25 : Nat → Int32) (f26 : Nat → Int32) (f39 : Nat → Int32) (sz : Nat) (h_v6 : 0 ≤ v6.toInt ∧ v6.toInt ≤ 1000) (h_v24 : 0 ≤ v24.toInt ∧ v24.toInt ≤ 1023) (hp_f17_0 : PR 30 6 0 0 8 f17) (hp_f17_1 : PR 30 6 1 0 10 f17) (hp_f17_2 : PR 30 6 2 0 4 f17) (hp_f17_3 : PR 30 6 3 0 6 f17) (hp_f17_4 : PR 30 6 4 0 2 f17) (hp_f17_5 : PR 30 6 5 0 40 f17) (hp_f18_0 : PR 250 5 0 0 7 f18) (hp_f18_1 : PR 250 5 1 0 7 f18) (hp_f18_2 : PR 250 5 2 0 60 f18) (hp_f18_3 : PR 250 5 3 0 10 f18) (hp_f19_0 : PR 40 2 0 0 7 f19) (hp_f19_1 : PR 40 2 1 0 99 f19) (hp_f20_0 : PR 120 4 0 0 7 f20) (hp_f22_0 : PR 600 3 1 0 9 f22) (hp_f22_1 : PR 600 3 2 0 99 f22) (hp_f22_2 : AK f22) (hp_f25_0 : PR 4 1 0 0 99 f25) (hp_f26_0 : PR 8 1 0 0 100000 f26) : Met l yX12_rests (ww yX12_rests cX12_rests 6 (some .int)) ({ frames := 6, cells := 0, slots := 0, locals := 135 }) (Pre0 D k [(mo, .inr (12, [.int v0, .ref m1, .ref m2, .ref m3, .ref m4, .ref m5, .int v6, .int v7, .int v8, .int v9, .int v10, .long v11, .int v12, .int v13, .int v14, .int v15, .ref m16, .ref m17, .ref m18, .ref m19, .ref m20, .ref m21, .ref m22, .ref m23, .int v24, .ref m25, .ref m26, .ref m27, .ref m28, .ref m29, .int v30, .ref m31, .ref m32, .ref m33, .int v34, .int v35, .int v36, .ref m37, .ref m38, .ref m39, .ref m40, .long v41])), (m16, .inl (k 0, 5, .inl f16)), (m17, .inl (k 0, 30, .inl f17)), (m18, .inl (k 0, 250, .inl f18)), (m19, .inl (k 0, 40, .inl f19)), (m20, .inl (k 0, 120, .inl f20)), (m22, .inl (k 0, 600, .inl f22)), (m25, .inl (k 0, 4, .inl f25)), (m26, .inl (k 0, 8, .inl f26)), (m39, .inl (k 0, 44, .inl f39))] sz [.ref mo]) (va_Qi (fun (r : Int32) (u : Int32 × Int32 × (Nat → Int32) × (Nat → Int32) × (Nat → Int32)) => match u with | (v0z, v24z, f25z, f26z, f39z) => (0 ≤ v0z.toInt ∧ v0z.toInt ≤ 0) ∧ (0 ≤ v24z.toInt ∧ v24z.toInt ≤ 1023) ∧ (PR 4 1 0 0 99 f25z) ∧ (PR 8 1 0 0 100000 f26z)) (fun (u : Int32 × Int32 × (Nat → Int32) × (Nat → Int32) × (Nat → Int32)) tZ => match u with | (v0z, v24z, f25z, f26z, f39z) => Bw D k (va_A [(mo, .inr (12, [.int v0, .ref m1, .ref m2, .ref m3, .ref m4, .ref m5, .int v6, .int v7, .int v8, .int v9, .int v10, .long v11, .int v12, .int v13, .int v14, .int v15, .ref m16, .ref m17, .ref m18, .ref m19, .ref m20, .ref m21, .ref m22, .ref m23, .int v24, .ref m25, .ref m26, .ref m27, .ref m28, .ref m29, .int v30, .ref m31, .ref m32, .ref m33, .int v34, .int v35, .int v36, .ref m37, .ref m38, .ref m39, .ref m40, .long v41])), (m16, .inl (k 0, 5, .inl f16)), (m17, .inl (k 0, 30, .inl f17)), (m18, .inl (k 0, 250, .inl f18)), (m19, .inl (k 0, 40, .inl f19)), (m20, .inl (k 0, 120, .inl f20)), (m22, .inl (k 0, 600, .inl f22)), (m25, .inl (k 0, 4, .inl f25)), (m26, .inl (k 0, 8, .inl f26)), (m39, .inl (k 0, 44, .inl f39))] sz) [(mo, .inr (12, [.int v0z, .ref m1, .ref m2, .ref m3, .ref m4, .ref m5, .int v6, .int v7, .int v8, .int v9, .int v10, .long v11, .int v12, .int v13, .int v14, .int v15, .ref m16, .ref m17, .ref m18, .ref m19, .ref m20, .ref m21, .ref m22, .ref m23, .int v24z, .ref m25, .ref m26, .ref m27, .ref m28, .ref m29, .int v30, .ref m31, .ref m32, .ref m33, .int v34, .int v35, .int v36, .ref m37, .ref m38, .ref m39, .ref m40, .long v41])), (m16, .inl (k 0, 5, .inl f16)), (m17, .inl (k 0, 30, .inl f17)), (m18, .inl (k 0, 250, .inl f18)), (m19, .inl (k 0, 40, .inl f19)), (m20, .inl (k 0, 120, .inl f20)), (m22, .inl (k 0, 600, .inl f22)), (m25, .inl (k 0, 4, .inl f25z)), (m26, .inl (k 0, 8, .inl f26z)), (m39, .inl (k 0, 44, .inl f39z))] tZ) (va_A [(mo, .inr (12, [.int v0, .ref m1, .ref m2, .ref m3, .ref m4, .ref m5, .int v6, .int v7, .int v8, .int v9, .int v10, .long v11, .int v12, .int v13, .int v14, .int v15, .ref m16, .ref m17, .ref m18, .ref m19, .ref m20, .ref m21, .ref m22, .ref m23, .int v24, .ref m25, .ref m26, .ref m27, .ref m28, .ref m29, .int v30, .ref m31, .ref m32, .ref m33, .int v34, .int v35, .int v36, .ref m37, .ref m38, .ref m39, .ref m40, .long v41])), (m16, .inl (k 0, 5, .inl f16)), (m17, .inl (k 0, 30, .inl f17)), (m18, .inl (k 0, 250, .inl f18)), (m19, .inl (k 0, 40, .inl f19)), (m20, .inl (k 0, 120, .inl f20)), (m22, .inl (k 0, 600, .inl f22)), (m25, .inl (k 0, 4, .inl f25)), (m26, .inl (k 0, 8, .inl f26)), (m39, .inl (k 0, 44, .inl f39))] sz)) 0 0 (va_A [(mo, .inr (12, [.int v0, .ref m1, .ref m2, .ref m3, .ref m4, .ref m5, .int v6, .int v7, .int v8, .int v9, .int v10, .long v11, .int v12, .int v13, .int v14, .int v15, .ref m16, .ref m17, .ref m18, .ref m19, .ref m20, .ref m21, .ref m22, .ref m23, .int v24, .ref m25, .ref m26, .ref m27, .ref m28, .ref m29, .int v30, .ref m31, .ref m32, .ref m33, .int v34, .int v35, .int v36, .ref m37, .ref m38, .ref m39, .ref m40, .long v41])), (m16, .inl (k 0, 5, .inl f16)), (m17, .inl (k 0, 30, .inl f17)), (m18, .inl (k 0, 250, .inl f18)), (m19, .inl (k 0, 40, .inl f19)), (m20, .inl (k 0, 120, .inl f20)), (m22, .inl (k 0, 600, .inl f22)), (m25, .inl (k 0, 4, .inl f25)), (m26, .inl (k 0, 8, .inl f26)), (m39, .inl (k 0, 44, .inl f39))] sz) := by
  refine Met.ofW (cc := cX12_rests) (maxL := 6) (ret := (some .int)) (by decide +kernel) rfl ?_
  intro p e s m args below meth c s₁ B hml hv
  obtain ⟨rfl, hsz, hP, hK, hD0, hN⟩ := hv
  have hx := B.exec
  have hb := B.bytes
  have hr := B.returns
  have hts : ∀ w ∈ TT, w.before _ s = true := fun w h => atoms_spec (ws := ww yX12_rests cX12_rests 6 (some .int)) B.pre w (List.mem_cons_of_mem _ h)
  have hown : s.vm.findClass RX12 = some m.cls := findClass_of_methodNamed B.named
  have hlocks := B.notSynchronized
  subst hsz
  have hD := hD0.self (sz := s.heap.size)
  generalize hAe : va_A [(mo, .inr (12, [.int v0, .ref m1, .ref m2, .ref m3, .ref m4, .ref m5, .int v6, .int v7, .int v8, .int v9, .int v10, .long v11, .int v12, .int v13, .int v14, .int v15, .ref m16, .ref m17, .ref m18, .ref m19, .ref m20, .ref m21, .ref m22, .ref m23, .int v24, .ref m25, .ref m26, .ref m27, .ref m28, .ref m29, .int v30, .ref m31, .ref m32, .ref m33, .int v34, .int v35, .int v36, .ref m37, .ref m38, .ref m39, .ref m40, .long v41])), (m16, .inl (k 0, 5, .inl f16)), (m17, .inl (k 0, 30, .inl f17)), (m18, .inl (k 0, 250, .inl f18)), (m19, .inl (k 0, 40, .inl f19)), (m20, .inl (k 0, 120, .inl f20)), (m22, .inl (k 0, 600, .inl f22)), (m25, .inl (k 0, 4, .inl f25)), (m26, .inl (k 0, 8, .inl f26)), (m39, .inl (k 0, 44, .inl f39))] s.heap.size = A at hD ⊢
  have hA : ∀ q : Nat, s.heap.size ≤ q → A q := fun q h => by rw [← hAe]; exact Or.inr h
  have hS : va_S A s.heap s.heap [] := va_S.rf
  have hl := lv_entry ([.ref mo]) (n := 6) (Nat.le_of_ble_eq_true rfl)
  rw [lg_entry_eq]
  generalize (lg_sl ([.ref mo]) ++ List.replicate (6 - (lg_sl ([.ref mo])).length) Slot.unset).toArray = ls at hl ⊢
  have hl : lv_has ls 6 [(0, .ref mo)] := hl
  refine lv_aload_n hx hb dX12_rests_0 rfl (lv_at hl 0 rfl) ?_
  refine lv_iconst (v := 0) hx hb dX12_rests_1 (by decide) ?_
  refine va_put (D := D) (ci := 12) (v := .int 0) (ty := tyX12 0) (C := RX12) (T := TX12) (N := 42) hx hb hts iT_X12 tyX12 tyX12_ok nmX12 hown hK hP hD hS 0 rfl rfl 0 (by decide) (hts _ tw_6_53) (fun _ h9 => h9) rfl (tyX12_ok 0 (by decide)) rfl rfl (Nat.le_of_ble_eq_true rfl) dX12_rests_2 (fun H locs hP hD hS => ?_)
  have hP : va_P D vwCl [(mo, .inr (12, [.int 0, .ref m1, .ref m2, .ref m3, .ref m4, .ref m5, .int v6, .int v7, .int v8, .int v9, .int v10, .long v11, .int v12, .int v13, .int v14, .int v15, .ref m16, .ref m17, .ref m18, .ref m19, .ref m20, .ref m21, .ref m22, .ref m23, .int v24, .ref m25, .ref m26, .ref m27, .ref m28, .ref m29, .int v30, .ref m31, .ref m32, .ref m33, .int v34, .int v35, .int v36, .ref m37, .ref m38, .ref m39, .ref m40, .long v41])), (m16, .inl (k 0, 5, .inl f16)), (m17, .inl (k 0, 30, .inl f17)), (m18, .inl (k 0, 250, .inl f18)), (m19, .inl (k 0, 40, .inl f19)), (m20, .inl (k 0, 120, .inl f20)), (m22, .inl (k 0, 600, .inl f22)), (m25, .inl (k 0, 4, .inl f25)), (m26, .inl (k 0, 8, .inl f26)), (m39, .inl (k 0, 44, .inl f39))] H := hP
  have hD : va_D A [(mo, .inr (12, [.int 0, .ref m1, .ref m2, .ref m3, .ref m4, .ref m5, .int v6, .int v7, .int v8, .int v9, .int v10, .long v11, .int v12, .int v13, .int v14, .int v15, .ref m16, .ref m17, .ref m18, .ref m19, .ref m20, .ref m21, .ref m22, .ref m23, .int v24, .ref m25, .ref m26, .ref m27, .ref m28, .ref m29, .int v30, .ref m31, .ref m32, .ref m33, .int v34, .int v35, .int v36, .ref m37, .ref m38, .ref m39, .ref m40, .long v41])), (m16, .inl (k 0, 5, .inl f16)), (m17, .inl (k 0, 30, .inl f17)), (m18, .inl (k 0, 250, .inl f18)), (m19, .inl (k 0, 40, .inl f19)), (m20, .inl (k 0, 120, .inl f20)), (m22, .inl (k 0, 600, .inl f22)), (m25, .inl (k 0, 4, .inl f25)), (m26, .inl (k 0, 8, .inl f26)), (m39, .inl (k 0, 44, .inl f39))] := hD
  refine lv_aload_n hx hb dX12_rests_5 rfl (lv_at hl 0 rfl) ?_
  obtain ⟨hPc, hDc, hFc⟩ := sub3 hP hD hS hA (ws' := [(mo, .inr (12, [.int 0, .ref m1, .ref m2, .ref m3, .ref m4, .ref m5, .int v6, .int v7, .int v8, .int v9, .int v10, .long v11, .int v12, .int v13, .int v14, .int v15, .ref m16, .ref m17, .ref m18, .ref m19, .ref m20, .ref m21, .ref m22, .ref m23, .int v24, .ref m25, .ref m26, .ref m27, .ref m28, .ref m29, .int v30, .ref m31, .ref m32, .ref m33, .int v34, .int v35, .int v36, .ref m37, .ref m38, .ref m39, .ref m40, .long v41])), (m16, .inl (k 0, 5, .inl f16))]) [0, 1] (by decide +kernel) rfl
  refine va_calli (va_runV (C := RX12) (As := []) (rest := []) ⟨hx, hb, hml, hown, hts⟩ (c_X12_isTown l D k mo 0 m1 m2 m3 m4 m5 v6 v7 v8 v9 v10 v11 v12 v13 v14 v15 m16 m17 m18 m19 m20 m21 m22 m23 v24 m25 m26 m27 m28 m29 v30 m31 m32 m33 v34 v35 v36 m37 m38 m39 m40 v41 f16 H.size (show 0 ≤ v6.toInt ∧ v6.toInt ≤ 1000 from by omega) (show 0 ≤ v24.toInt ∧ v24.toInt ≤ 1023 from by omega)) (cwV 0 hts (gV tw_7_181 tw_7_183 tw_p_71 tw_1_13 tw_7_184) rfl rfl rfl hdV_X12_isTown ⟨Nat.le_of_ble_eq_true rfl, Nat.le_of_ble_eq_true rfl⟩) (cz_V hK hPc hDc hN (ci := 12) (q0 := 0) rfl rfl []) rfl rfl hl.1 rfl (lv_room (Nat.le_of_ble_eq_true rfl)) dX12_rests_6 ⟨Nat.le_of_ble_eq_true rfl, Nat.le_of_ble_eq_true rfl⟩) hS (fun q _ h => hFc q h) hFc (fun r_1 uZ tZ H1 locs ht hvm hw hB hz1 hk1 hS => ?_)
  obtain ⟨hP1, hK1, hD1⟩ := hB
  rw [ht] at hP1
  obtain ⟨hP, hD⟩ := va_join (wr := [(m17, .inl (k 0, 30, .inl f17)), (m18, .inl (k 0, 250, .inl f18)), (m19, .inl (k 0, 40, .inl f19)), (m20, .inl (k 0, 120, .inl f20)), (m22, .inl (k 0, 600, .inl f22)), (m25, .inl (k 0, 4, .inl f25)), (m26, .inl (k 0, 8, .inl f26)), (m39, .inl (k 0, 44, .inl f39))]) (w1 := [(mo, .inr (12, [.int 0, .ref m1, .ref m2, .ref m3, .ref m4, .ref m5, .int v6, .int v7, .int v8, .int v9, .int v10, .long v11, .int v12, .int v13, .int v14, .int v15, .ref m16, .ref m17, .ref m18, .ref m19, .ref m20, .ref m21, .ref m22, .ref m23, .int v24, .ref m25, .ref m26, .ref m27, .ref m28, .ref m29, .int v30, .ref m31, .ref m32, .ref m33, .int v34, .int v35, .int v36, .ref m37, .ref m38, .ref m39, .ref m40, .long v41])), (m16, .inl (k 0, 5, .inl f16))]) hP hD [0, 1] [2, 3, 4, 5, 6, 7, 8, 9] rfl rfl (by decide +kernel) (by decide +kernel) hk1 hFc hP1 hD1
  clear hK1 hP1 hD1 hPc hDc hFc
  clear hk1 hz1 ht hvm
  have hP : va_P D vwCl [(m17, .inl (k 0, 30, .inl f17)), (m18, .inl (k 0, 250, .inl f18)), (m19, .inl (k 0, 40, .inl f19)), (m20, .inl (k 0, 120, .inl f20)), (m22, .inl (k 0, 600, .inl f22)), (m25, .inl (k 0, 4, .inl f25)), (m26, .inl (k 0, 8, .inl f26)), (m39, .inl (k 0, 44, .inl f39)), (mo, .inr (12, [.int 0, .ref m1, .ref m2, .ref m3, .ref m4, .ref m5, .int v6, .int v7, .int v8, .int v9, .int v10, .long v11, .int v12, .int v13, .int v14, .int v15, .ref m16, .ref m17, .ref m18, .ref m19, .ref m20, .ref m21, .ref m22, .ref m23, .int v24, .ref m25, .ref m26, .ref m27, .ref m28, .ref m29, .int v30, .ref m31, .ref m32, .ref m33, .int v34, .int v35, .int v36, .ref m37, .ref m38, .ref m39, .ref m40, .long v41])), (m16, .inl (k 0, 5, .inl f16))] H1 := hP
  have hD : va_D A [(m17, .inl (k 0, 30, .inl f17)), (m18, .inl (k 0, 250, .inl f18)), (m19, .inl (k 0, 40, .inl f19)), (m20, .inl (k 0, 120, .inl f20)), (m22, .inl (k 0, 600, .inl f22)), (m25, .inl (k 0, 4, .inl f25)), (m26, .inl (k 0, 8, .inl f26)), (m39, .inl (k 0, 44, .inl f39)), (mo, .inr (12, [.int 0, .ref m1, .ref m2, .ref m3, .ref m4, .ref m5, .int v6, .int v7, .int v8, .int v9, .int v10, .long v11, .int v12, .int v13, .int v14, .int v15, .ref m16, .ref m17, .ref m18, .ref m19, .ref m20, .ref m21, .ref m22, .ref m23, .int v24, .ref m25, .ref m26, .ref m27, .ref m28, .ref m29, .int v30, .ref m31, .ref m32, .ref m33, .int v34, .int v35, .int v36, .ref m37, .ref m38, .ref m39, .ref m40, .long v41])), (m16, .inl (k 0, 5, .inl f16))] := hD
  generalize H1 = H at hP hS ⊢
  have hw_2 : (0 ≤ r_1.toInt ∧ r_1.toInt ≤ 1) := hw
  have hw_3 := hw_2
  clear hw
  refine lv_if_ne (tgt := 15) hx hb dX12_rests_9 (by decide) (fun h_4 => ?_) (fun h_4 => ?_)
  · skip
    have zh_4 : ¬ r_1.toInt = 0 := z_ne h_4
    refine lv_aload_n hx hb dX12_rests_15 rfl (lv_at hl 0 rfl) ?_
    obtain ⟨hPc, hDc, hFc⟩ := sub3 hP hD hS hA (ws' := [(mo, .inr (12, [.int 0, .ref m1, .ref m2, .ref m3, .ref m4, .ref m5, .int v6, .int v7, .int v8, .int v9, .int v10, .long v11, .int v12, .int v13, .int v14, .int v15, .ref m16, .ref m17, .ref m18, .ref m19, .ref m20, .ref m21, .ref m22, .ref m23, .int v24, .ref m25, .ref m26, .ref m27, .ref m28, .ref m29, .int v30, .ref m31, .ref m32, .ref m33, .int v34, .int v35, .int v36, .ref m37, .ref m38, .ref m39, .ref m40, .long v41])), (m17, .inl (k 0, 30, .inl f17)), (m18, .inl (k 0, 250, .inl f18)), (m19, .inl (k 0, 40, .inl f19)), (m20, .inl (k 0, 120, .inl f20)), (m22, .inl (k 0, 600, .inl f22)), (m25, .inl (k 0, 4, .inl f25)), (m26, .inl (k 0, 8, .inl f26)), (m39, .inl (k 0, 44, .inl f39))]) [8, 0, 1, 2, 3, 4, 5, 6, 7] (by decide +kernel) rfl
    refine va_callv (va_runV (C := RX12) (As := []) (rest := []) ⟨hx, hb, hml, hown, hts⟩ (c_X12_laysGame l D k mo 0 m1 m2 m3 m4 m5 v6 v7 v8 v9 v10 v11 v12 v13 v14 v15 m16 m17 m18 m19 m20 m21 m22 m23 v24 m25 m26 m27 m28 m29 v30 m31 m32 m33 v34 v35 v36 m37 m38 m39 m40 v41 f17 f18 f19 f20 f22 f25 f26 f39 H.size (show 0 ≤ v6.toInt ∧ v6.toInt ≤ 1000 from by omega) (show 0 ≤ v24.toInt ∧ v24.toInt ≤ 1023 from by omega) hp_f17_0 hp_f17_1 hp_f17_2 hp_f17_3 hp_f17_4 hp_f17_5 hp_f18_0 hp_f18_1 hp_f18_2 hp_f18_3 hp_f19_0 hp_f19_1 hp_f20_0 hp_f22_0 hp_f22_1 hp_f22_2 hp_f25_0 hp_f26_0) (cwV 0 hts (gV tw_8_170 tw_8_172 tw_p_92 tw_1_13 tw_8_173) rfl rfl rfl hdV_X12_laysGame ⟨Nat.le_of_ble_eq_true rfl, Nat.le_of_ble_eq_true rfl⟩) (cz_V hK hPc hDc hN (ci := 12) (q0 := 0) rfl rfl []) rfl rfl hl.1 rfl (lv_room (Nat.le_of_ble_eq_true rfl)) dX12_rests_16 ⟨Nat.le_of_ble_eq_true rfl, Nat.le_of_ble_eq_true rfl⟩) hS (fun q _ h => hFc q h) hFc (fun uZ tZ H1 locs ht hvm hw hB hz1 hk1 hS => ?_)
    obtain ⟨o_6, o_7, o_8, o_9⟩ := uZ
    obtain ⟨hP1, hK1, hD1⟩ := hB
    rw [ht] at hP1
    obtain ⟨hP, hD⟩ := va_join (wr := [(m16, .inl (k 0, 5, .inl f16))]) (w1 := [(mo, .inr (12, [.int 0, .ref m1, .ref m2, .ref m3, .ref m4, .ref m5, .int v6, .int v7, .int v8, .int v9, .int v10, .long v11, .int v12, .int v13, .int v14, .int v15, .ref m16, .ref m17, .ref m18, .ref m19, .ref m20, .ref m21, .ref m22, .ref m23, .int o_6, .ref m25, .ref m26, .ref m27, .ref m28, .ref m29, .int v30, .ref m31, .ref m32, .ref m33, .int v34, .int v35, .int v36, .ref m37, .ref m38, .ref m39, .ref m40, .long v41])), (m17, .inl (k 0, 30, .inl f17)), (m18, .inl (k 0, 250, .inl f18)), (m19, .inl (k 0, 40, .inl f19)), (m20, .inl (k 0, 120, .inl f20)), (m22, .inl (k 0, 600, .inl f22)), (m25, .inl (k 0, 4, .inl o_7)), (m26, .inl (k 0, 8, .inl o_8)), (m39, .inl (k 0, 44, .inl o_9))]) hP hD [8, 0, 1, 2, 3, 4, 5, 6, 7] [9] rfl rfl (by decide +kernel) (by decide +kernel) hk1 hFc hP1 hD1
    clear hK1 hP1 hD1 hPc hDc hFc
    clear hk1 hz1 ht hvm
    have hP : va_P D vwCl [(m16, .inl (k 0, 5, .inl f16)), (mo, .inr (12, [.int 0, .ref m1, .ref m2, .ref m3, .ref m4, .ref m5, .int v6, .int v7, .int v8, .int v9, .int v10, .long v11, .int v12, .int v13, .int v14, .int v15, .ref m16, .ref m17, .ref m18, .ref m19, .ref m20, .ref m21, .ref m22, .ref m23, .int o_6, .ref m25, .ref m26, .ref m27, .ref m28, .ref m29, .int v30, .ref m31, .ref m32, .ref m33, .int v34, .int v35, .int v36, .ref m37, .ref m38, .ref m39, .ref m40, .long v41])), (m17, .inl (k 0, 30, .inl f17)), (m18, .inl (k 0, 250, .inl f18)), (m19, .inl (k 0, 40, .inl f19)), (m20, .inl (k 0, 120, .inl f20)), (m22, .inl (k 0, 600, .inl f22)), (m25, .inl (k 0, 4, .inl o_7)), (m26, .inl (k 0, 8, .inl o_8)), (m39, .inl (k 0, 44, .inl o_9))] H1 := hP
    have hD : va_D A [(m16, .inl (k 0, 5, .inl f16)), (mo, .inr (12, [.int 0, .ref m1, .ref m2, .ref m3, .ref m4, .ref m5, .int v6, .int v7, .int v8, .int v9, .int v10, .long v11, .int v12, .int v13, .int v14, .int v15, .ref m16, .ref m17, .ref m18, .ref m19, .ref m20, .ref m21, .ref m22, .ref m23, .int o_6, .ref m25, .ref m26, .ref m27, .ref m28, .ref m29, .int v30, .ref m31, .ref m32, .ref m33, .int v34, .int v35, .int v36, .ref m37, .ref m38, .ref m39, .ref m40, .long v41])), (m17, .inl (k 0, 30, .inl f17)), (m18, .inl (k 0, 250, .inl f18)), (m19, .inl (k 0, 40, .inl f19)), (m20, .inl (k 0, 120, .inl f20)), (m22, .inl (k 0, 600, .inl f22)), (m25, .inl (k 0, 4, .inl o_7)), (m26, .inl (k 0, 8, .inl o_8)), (m39, .inl (k 0, 44, .inl o_9))] := hD
    generalize H1 = H at hP hS ⊢
    have hw_10 : (0 ≤ o_6.toInt ∧ o_6.toInt ≤ 1023) ∧ (PR 4 1 0 0 99 o_7) ∧ (PR 8 1 0 0 100000 o_8) := hw
    obtain ⟨hw_11, hw_12, hw_13⟩ := hw_10
    clear hw
    refine lv_iconst (v := 0) hx hb dX12_rests_19 (by decide) ?_
    refine lv_istore_n (lv' := [(1, .int 0), (0, .ref mo)]) hx hb dX12_rests_20 rfl hl (by decide) rfl (fun ls hl => ?_)
    refine lv_iconst (v := 0) hx hb dX12_rests_21 (by decide) ?_
    refine lv_istore_n (lv' := [(2, .int 0), (1, .int 0), (0, .ref mo)]) hx hb dX12_rests_22 rfl hl (by decide) rfl (fun ls hl => ?_)
    refine loop_r (Wg := fun H locs ls => W p l e _ s m _ below meth c H locs _ _ _ (F0 m 23 ls [])) (fun n9 H locs ls => ∃ (L23l1 : Int32) (L23l2 : Int32), n9 = (4 - L23l2.toInt).toNat ∧ (0 ≤ L23l2.toInt ∧ L23l2.toInt ≤ 4) ∧ va_P D vwCl [(m16, .inl (k 0, 5, .inl f16)), (mo, .inr (12, [.int 0, .ref m1, .ref m2, .ref m3, .ref m4, .ref m5, .int v6, .int v7, .int v8, .int v9, .int v10, .long v11, .int v12, .int v13, .int v14, .int v15, .ref m16, .ref m17, .ref m18, .ref m19, .ref m20, .ref m21, .ref m22, .ref m23, .int o_6, .ref m25, .ref m26, .ref m27, .ref m28, .ref m29, .int v30, .ref m31, .ref m32, .ref m33, .int v34, .int v35, .int v36, .ref m37, .ref m38, .ref m39, .ref m40, .long v41])), (m17, .inl (k 0, 30, .inl f17)), (m18, .inl (k 0, 250, .inl f18)), (m19, .inl (k 0, 40, .inl f19)), (m20, .inl (k 0, 120, .inl f20)), (m22, .inl (k 0, 600, .inl f22)), (m25, .inl (k 0, 4, .inl o_7)), (m26, .inl (k 0, 8, .inl o_8)), (m39, .inl (k 0, 44, .inl o_9))] H ∧ va_D A [(m16, .inl (k 0, 5, .inl f16)), (mo, .inr (12, [.int 0, .ref m1, .ref m2, .ref m3, .ref m4, .ref m5, .int v6, .int v7, .int v8, .int v9, .int v10, .long v11, .int v12, .int v13, .int v14, .int v15, .ref m16, .ref m17, .ref m18, .ref m19, .ref m20, .ref m21, .ref m22, .ref m23, .int o_6, .ref m25, .ref m26, .ref m27, .ref m28, .ref m29, .int v30, .ref m31, .ref m32, .ref m33, .int v34, .int v35, .int v36, .ref m37, .ref m38, .ref m39, .ref m40, .long v41])), (m17, .inl (k 0, 30, .inl f17)), (m18, .inl (k 0, 250, .inl f18)), (m19, .inl (k 0, 40, .inl f19)), (m20, .inl (k 0, 120, .inl f20)), (m22, .inl (k 0, 600, .inl f22)), (m25, .inl (k 0, 4, .inl o_7)), (m26, .inl (k 0, 8, .inl o_8)), (m39, .inl (k 0, 44, .inl o_9))] ∧ va_S A s.heap H locs ∧ lv_has ls 6 [(0, .ref mo), (1, .int L23l1), (2, .int L23l2)]) (fun n9 H locs ls hI ih_14 => ?_) _ _ _ _ ⟨0, 0, rfl, (show 0 ≤ 0 ∧ 0 ≤ 4 from by omega), hP.sub (ws' := [(m16, .inl (k 0, 5, .inl f16)), (mo, .inr (12, [.int 0, .ref m1, .ref m2, .ref m3, .ref m4, .ref m5, .int v6, .int v7, .int v8, .int v9, .int v10, .long v11, .int v12, .int v13, .int v14, .int v15, .ref m16, .ref m17, .ref m18, .ref m19, .ref m20, .ref m21, .ref m22, .ref m23, .int o_6, .ref m25, .ref m26, .ref m27, .ref m28, .ref m29, .int v30, .ref m31, .ref m32, .ref m33, .int v34, .int v35, .int v36, .ref m37, .ref m38, .ref m39, .ref m40, .long v41])), (m17, .inl (k 0, 30, .inl f17)), (m18, .inl (k 0, 250, .inl f18)), (m19, .inl (k 0, 40, .inl f19)), (m20, .inl (k 0, 120, .inl f20)), (m22, .inl (k 0, 600, .inl f22)), (m25, .inl (k 0, 4, .inl o_7)), (m26, .inl (k 0, 8, .inl o_8)), (m39, .inl (k 0, 44, .inl o_9))]) [0, 1, 2, 3, 4, 5, 6, 7, 8, 9] rfl, hD.sub (ws' := [(m16, .inl (k 0, 5, .inl f16)), (mo, .inr (12, [.int 0, .ref m1, .ref m2, .ref m3, .ref m4, .ref m5, .int v6, .int v7, .int v8, .int v9, .int v10, .long v11, .int v12, .int v13, .int v14, .int v15, .ref m16, .ref m17, .ref m18, .ref m19, .ref m20, .ref m21, .ref m22, .ref m23, .int o_6, .ref m25, .ref m26, .ref m27, .ref m28, .ref m29, .int v30, .ref m31, .ref m32, .ref m33, .int v34, .int v35, .int v36, .ref m37, .ref m38, .ref m39, .ref m40, .long v41])), (m17, .inl (k 0, 30, .inl f17)), (m18, .inl (k 0, 250, .inl f18)), (m19, .inl (k 0, 40, .inl f19)), (m20, .inl (k 0, 120, .inl f20)), (m22, .inl (k 0, 600, .inl f22)), (m25, .inl (k 0, 4, .inl o_7)), (m26, .inl (k 0, 8, .inl o_8)), (m39, .inl (k 0, 44, .inl o_9))]) [0, 1, 2, 3, 4, 5, 6, 7, 8, 9] (by decide +kernel) rfl, hS, lv_sub hl [2, 1, 0] rfl⟩
    clear hP hD hS hl
    obtain ⟨L23l1, L23l2, en_15, zL23l2, hP, hD, hS, hl⟩ := hI
    refine lv_iload_n hx hb dX12_rests_23 rfl (lv_at hl 2 rfl) ?_
    refine lv_aload_n hx hb dX12_rests_24 rfl (lv_at hl 0 rfl) ?_
    refine va_get (D := D) (ci := 12) (v := .ref m17) (C := RX12) (T := TX12) (N := 42) hx hb hts iT_X12 hown hK hP 1 rfl rfl 17 (by decide) (hts _ tw_6_70) (fun _ h9 => h9) rfl dX12_rests_25 ?_
    refine lv_iconst (v := 2) hx hb dX12_rests_28 (by decide) ?_
    refine va_iald hx hb hK hP 2 0 rfl rfl (z_in (by decide) (by decide)) dX12_rests_29 ?_
    refine lv_topi (fun x_16 ex_16 => ?_)
    have zx_16r2 : 0 ≤ x_16.toInt ∧ x_16.toInt ≤ 4 := by rw [ex_16]; exact PR.ld hp_f17_2 (by decide) (by decide) (by decide)
    refine lv_icmp_ge (tgt := 196) hx hb dX12_rests_30 (by decide) (fun h_17 => ?_) (fun h_17 => ?_)
    · skip
      have zh_17 : x_16.toInt ≤ L23l2.toInt := z_le h_17
      refine lv_iload_n hx hb dX12_rests_196 rfl (lv_at hl 1 rfl) ?_
      obtain ⟨hP9, hD9⟩ := sub2 hP hD (ws' := [(mo, .inr (12, [.int 0, .ref m1, .ref m2, .ref m3, .ref m4, .ref m5, .int v6, .int v7, .int v8, .int v9, .int v10, .long v11, .int v12, .int v13, .int v14, .int v15, .ref m16, .ref m17, .ref m18, .ref m19, .ref m20, .ref m21, .ref m22, .ref m23, .int o_6, .ref m25, .ref m26, .ref m27, .ref m28, .ref m29, .int v30, .ref m31, .ref m32, .ref m33, .int v34, .int v35, .int v36, .ref m37, .ref m38, .ref m39, .ref m40, .long v41])), (m16, .inl (k 0, 5, .inl f16)), (m17, .inl (k 0, 30, .inl f17)), (m18, .inl (k 0, 250, .inl f18)), (m19, .inl (k 0, 40, .inl f19)), (m20, .inl (k 0, 120, .inl f20)), (m22, .inl (k 0, 600, .inl f22)), (m25, .inl (k 0, 4, .inl o_7)), (m26, .inl (k 0, 8, .inl o_8)), (m39, .inl (k 0, 44, .inl o_9))]) [1, 0, 2, 3, 4, 5, 6, 7, 8, 9] (by decide +kernel) rfl
      exact W.iret (v := L23l1) hx hb hr (fun tZ ht hW => ⟨⟨L23l1, (0, o_6, o_7, o_8, o_9), rfl, ⟨(show 0 ≤ 0 ∧ 0 ≤ 0 from by omega), (show 0 ≤ o_6.toInt ∧ o_6.toInt ≤ 1023 from by omega), hw_12, hw_13⟩, by rw [ht]; exact hP9, va_K.moved hW.alike hK, hD9⟩, hS.F ht⟩) hS.2.2 dX12_rests_197
    · skip
      have zh_17 : L23l2.toInt < x_16.toInt := z_nle h_17
      refine lv_iconst (v := 0) hx hb dX12_rests_33 (by decide) ?_
      refine lv_istore_n (lv' := [(3, .int 0), (0, .ref mo), (1, .int L23l1), (2, .int L23l2)]) hx hb dX12_rests_34 rfl hl (by decide) rfl (fun ls hl => ?_)
      refine loop_r (Wg := fun H locs ls => W p l e _ s m _ below meth c H locs _ _ _ (F0 m 35 ls [])) (fun n9 H locs ls => ∃ (L35l1 : Int32) (L35l3 : Int32), n9 = (10 - L35l3.toInt).toNat ∧ (0 ≤ L35l3.toInt ∧ L35l3.toInt ≤ 10) ∧ va_P D vwCl [(m16, .inl (k 0, 5, .inl f16)), (mo, .inr (12, [.int 0, .ref m1, .ref m2, .ref m3, .ref m4, .ref m5, .int v6, .int v7, .int v8, .int v9, .int v10, .long v11, .int v12, .int v13, .int v14, .int v15, .ref m16, .ref m17, .ref m18, .ref m19, .ref m20, .ref m21, .ref m22, .ref m23, .int o_6, .ref m25, .ref m26, .ref m27, .ref m28, .ref m29, .int v30, .ref m31, .ref m32, .ref m33, .int v34, .int v35, .int v36, .ref m37, .ref m38, .ref m39, .ref m40, .long v41])), (m17, .inl (k 0, 30, .inl f17)), (m18, .inl (k 0, 250, .inl f18)), (m19, .inl (k 0, 40, .inl f19)), (m20, .inl (k 0, 120, .inl f20)), (m22, .inl (k 0, 600, .inl f22)), (m25, .inl (k 0, 4, .inl o_7)), (m26, .inl (k 0, 8, .inl o_8)), (m39, .inl (k 0, 44, .inl o_9))] H ∧ va_D A [(m16, .inl (k 0, 5, .inl f16)), (mo, .inr (12, [.int 0, .ref m1, .ref m2, .ref m3, .ref m4, .ref m5, .int v6, .int v7, .int v8, .int v9, .int v10, .long v11, .int v12, .int v13, .int v14, .int v15, .ref m16, .ref m17, .ref m18, .ref m19, .ref m20, .ref m21, .ref m22, .ref m23, .int o_6, .ref m25, .ref m26, .ref m27, .ref m28, .ref m29, .int v30, .ref m31, .ref m32, .ref m33, .int v34, .int v35, .int v36, .ref m37, .ref m38, .ref m39, .ref m40, .long v41])), (m17, .inl (k 0, 30, .inl f17)), (m18, .inl (k 0, 250, .inl f18)), (m19, .inl (k 0, 40, .inl f19)), (m20, .inl (k 0, 120, .inl f20)), (m22, .inl (k 0, 600, .inl f22)), (m25, .inl (k 0, 4, .inl o_7)), (m26, .inl (k 0, 8, .inl o_8)), (m39, .inl (k 0, 44, .inl o_9))] ∧ va_S A s.heap H locs ∧ lv_has ls 6 [(0, .ref mo), (1, .int L35l1), (2, .int L23l2), (3, .int L35l3)]) (fun n9 H locs ls hI ih_18 => ?_) _ _ _ _ ⟨L23l1, 0, rfl, (show 0 ≤ 0 ∧ 0 ≤ 10 from by omega), hP.sub (ws' := [(m16, .inl (k 0, 5, .inl f16)), (mo, .inr (12, [.int 0, .ref m1, .ref m2, .ref m3, .ref m4, .ref m5, .int v6, .int v7, .int v8, .int v9, .int v10, .long v11, .int v12, .int v13, .int v14, .int v15, .ref m16, .ref m17, .ref m18, .ref m19, .ref m20, .ref m21, .ref m22, .ref m23, .int o_6, .ref m25, .ref m26, .ref m27, .ref m28, .ref m29, .int v30, .ref m31, .ref m32, .ref m33, .int v34, .int v35, .int v36, .ref m37, .ref m38, .ref m39, .ref m40, .long v41])), (m17, .inl (k 0, 30, .inl f17)), (m18, .inl (k 0, 250, .inl f18)), (m19, .inl (k 0, 40, .inl f19)), (m20, .inl (k 0, 120, .inl f20)), (m22, .inl (k 0, 600, .inl f22)), (m25, .inl (k 0, 4, .inl o_7)), (m26, .inl (k 0, 8, .inl o_8)), (m39, .inl (k 0, 44, .inl o_9))]) [0, 1, 2, 3, 4, 5, 6, 7, 8, 9] rfl, hD.sub (ws' := [(m16, .inl (k 0, 5, .inl f16)), (mo, .inr (12, [.int 0, .ref m1, .ref m2, .ref m3, .ref m4, .ref m5, .int v6, .int v7, .int v8, .int v9, .int v10, .long v11, .int v12, .int v13, .int v14, .int v15, .ref m16, .ref m17, .ref m18, .ref m19, .ref m20, .ref m21, .ref m22, .ref m23, .int o_6, .ref m25, .ref m26, .ref m27, .ref m28, .ref m29, .int v30, .ref m31, .ref m32, .ref m33, .int v34, .int v35, .int v36, .ref m37, .ref m38, .ref m39, .ref m40, .long v41])), (m17, .inl (k 0, 30, .inl f17)), (m18, .inl (k 0, 250, .inl f18)), (m19, .inl (k 0, 40, .inl f19)), (m20, .inl (k 0, 120, .inl f20)), (m22, .inl (k 0, 600, .inl f22)), (m25, .inl (k 0, 4, .inl o_7)), (m26, .inl (k 0, 8, .inl o_8)), (m39, .inl (k 0, 44, .inl o_9))]) [0, 1, 2, 3, 4, 5, 6, 7, 8, 9] (by decide +kernel) rfl, hS, lv_sub hl [1, 2, 3, 0] rfl⟩
      clear hP hD hS hl
      obtain ⟨L35l1, L35l3, en_19, zL35l3, hP, hD, hS, hl⟩ := hI
      refine lv_iload_n hx hb dX12_rests_35 rfl (lv_at hl 3 rfl) ?_
      refine lv_aload_n hx hb dX12_rests_36 rfl (lv_at hl 0 rfl) ?_
      refine va_get (D := D) (ci := 12) (v := .ref m17) (C := RX12) (T := TX12) (N := 42) hx hb hts iT_X12 hown hK hP 1 rfl rfl 17 (by decide) (hts _ tw_6_70) (fun _ h9 => h9) rfl dX12_rests_37 ?_
      refine lv_iconst (v := 1) hx hb dX12_rests_40 (by decide) ?_
      refine va_iald hx hb hK hP 2 0 rfl rfl (z_in (by decide) (by decide)) dX12_rests_41 ?_
      refine lv_topi (fun x_20 ex_20 => ?_)
      have zx_20r1 : 0 ≤ x_20.toInt ∧ x_20.toInt ≤ 10 := by rw [ex_20]; exact PR.ld hp_f17_1 (by decide) (by decide) (by decide)
      refine lv_icmp_ge (tgt := 190) hx hb dX12_rests_42 (by decide) (fun h_21 => ?_) (fun h_21 => ?_)
      · skip
        have zh_21 : x_20.toInt ≤ L35l3.toInt := z_le h_21
        obtain ⟨x_22, ex_22⟩ : ∃ y : Int32, y = L23l2 + 1 := ⟨_, rfl⟩
        have zx_22 : x_22.toInt = L23l2.toInt + 1 := by rw [ex_22]; exact z_add rfl rfl (by omega) (by omega)
        refine lv_iinc (v := x_22) (lv' := [(2, .int x_22), (0, .ref mo), (1, .int L35l1), (3, .int L35l3)]) hx hb dX12_rests_190 hl (k := 2) rfl (by rw [ex_22]; rfl) (by decide) rfl (fun ls hl => ?_)
        refine lv_goto (tgt := 23) hx hb dX12_rests_193 (by decide) ?_
        exact ih_14 _ _ _ _ (by omega) ⟨L35l1, x_22, rfl, (show 0 ≤ x_22.toInt ∧ x_22.toInt ≤ 4 from by omega), hP.sub (ws' := [(m16, .inl (k 0, 5, .inl f16)), (mo, .inr (12, [.int 0, .ref m1, .ref m2, .ref m3, .ref m4, .ref m5, .int v6, .int v7, .int v8, .int v9, .int v10, .long v11, .int v12, .int v13, .int v14, .int v15, .ref m16, .ref m17, .ref m18, .ref m19, .ref m20, .ref m21, .ref m22, .ref m23, .int o_6, .ref m25, .ref m26, .ref m27, .ref m28, .ref m29, .int v30, .ref m31, .ref m32, .ref m33, .int v34, .int v35, .int v36, .ref m37, .ref m38, .ref m39, .ref m40, .long v41])), (m17, .inl (k 0, 30, .inl f17)), (m18, .inl (k 0, 250, .inl f18)), (m19, .inl (k 0, 40, .inl f19)), (m20, .inl (k 0, 120, .inl f20)), (m22, .inl (k 0, 600, .inl f22)), (m25, .inl (k 0, 4, .inl o_7)), (m26, .inl (k 0, 8, .inl o_8)), (m39, .inl (k 0, 44, .inl o_9))]) [0, 1, 2, 3, 4, 5, 6, 7, 8, 9] rfl, hD.sub (ws' := [(m16, .inl (k 0, 5, .inl f16)), (mo, .inr (12, [.int 0, .ref m1, .ref m2, .ref m3, .ref m4, .ref m5, .int v6, .int v7, .int v8, .int v9, .int v10, .long v11, .int v12, .int v13, .int v14, .int v15, .ref m16, .ref m17, .ref m18, .ref m19, .ref m20, .ref m21, .ref m22, .ref m23, .int o_6, .ref m25, .ref m26, .ref m27, .ref m28, .ref m29, .int v30, .ref m31, .ref m32, .ref m33, .int v34, .int v35, .int v36, .ref m37, .ref m38, .ref m39, .ref m40, .long v41])), (m17, .inl (k 0, 30, .inl f17)), (m18, .inl (k 0, 250, .inl f18)), (m19, .inl (k 0, 40, .inl f19)), (m20, .inl (k 0, 120, .inl f20)), (m22, .inl (k 0, 600, .inl f22)), (m25, .inl (k 0, 4, .inl o_7)), (m26, .inl (k 0, 8, .inl o_8)), (m39, .inl (k 0, 44, .inl o_9))]) [0, 1, 2, 3, 4, 5, 6, 7, 8, 9] (by decide +kernel) rfl, hS, lv_sub hl [1, 2, 0] rfl⟩
      · skip
        have zh_21 : L35l3.toInt < x_20.toInt := z_nle h_21
        refine lv_aload_n hx hb dX12_rests_45 rfl (lv_at hl 0 rfl) ?_
        refine va_get (D := D) (ci := 12) (v := .int o_6) (C := RX12) (T := TX12) (N := 42) hx hb hts iT_X12 hown hK hP 1 rfl rfl 24 (by decide) (hts _ tw_6_77) (fun _ h9 => h9) rfl dX12_rests_46 ?_
        refine lv_iload_n hx hb dX12_rests_49 rfl (lv_at hl 3 rfl) ?_
        obtain ⟨hPc, hDc, hFc⟩ := sub3 hP hD hS hA (ws' := []) [] (by decide +kernel) rfl
        refine va_calli (va_runS (As := [.int o_6, .int L35l3]) (rest := []) ⟨hx, hb, hml, hown, hts⟩ (c_X12_isBit l D k o_6 L35l3 H.size) (va_cwS 2 hts (gS tw_7_107 tw_7_108 tw_1_13 tw_7_109) rfl rfl rfl hdS_X12_isBit ⟨Nat.le_of_ble_eq_true rfl, Nat.le_of_ble_eq_true rfl⟩) (cz_S hK hPc hDc hN [.int o_6, .int L35l3]) rfl rfl hl.1 rfl (lv_room (Nat.le_of_ble_eq_true rfl)) dX12_rests_50 ⟨Nat.le_of_ble_eq_true rfl, Nat.le_of_ble_eq_true rfl⟩) hS (fun q _ h => hFc q h) hFc (fun r_23 uZ tZ H1 locs ht hvm hw hB hz1 hk1 hS => ?_)
        obtain ⟨hP1, hK1, hD1⟩ := hB
        rw [ht] at hP1
        obtain ⟨hP, hD⟩ := va_join (wr := [(m16, .inl (k 0, 5, .inl f16)), (mo, .inr (12, [.int 0, .ref m1, .ref m2, .ref m3, .ref m4, .ref m5, .int v6, .int v7, .int v8, .int v9, .int v10, .long v11, .int v12, .int v13, .int v14, .int v15, .ref m16, .ref m17, .ref m18, .ref m19, .ref m20, .ref m21, .ref m22, .ref m23, .int o_6, .ref m25, .ref m26, .ref m27, .ref m28, .ref m29, .int v30, .ref m31, .ref m32, .ref m33, .int v34, .int v35, .int v36, .ref m37, .ref m38, .ref m39, .ref m40, .long v41])), (m17, .inl (k 0, 30, .inl f17)), (m18, .inl (k 0, 250, .inl f18)), (m19, .inl (k 0, 40, .inl f19)), (m20, .inl (k 0, 120, .inl f20)), (m22, .inl (k 0, 600, .inl f22)), (m25, .inl (k 0, 4, .inl o_7)), (m26, .inl (k 0, 8, .inl o_8)), (m39, .inl (k 0, 44, .inl o_9))]) (w1 := []) hP hD [] [0, 1, 2, 3, 4, 5, 6, 7, 8, 9] rfl rfl (by decide +kernel) (by decide +kernel) hk1 hFc hP1 hD1
        clear hK1 hP1 hD1 hPc hDc hFc
        clear hk1 hz1 ht hvm
        have hP : va_P D vwCl [(m16, .inl (k 0, 5, .inl f16)), (mo, .inr (12, [.int 0, .ref m1, .ref m2, .ref m3, .ref m4, .ref m5, .int v6, .int v7, .int v8, .int v9, .int v10, .long v11, .int v12, .int v13, .int v14, .int v15, .ref m16, .ref m17, .ref m18, .ref m19, .ref m20, .ref m21, .ref m22, .ref m23, .int o_6, .ref m25, .ref m26, .ref m27, .ref m28, .ref m29, .int v30, .ref m31, .ref m32, .ref m33, .int v34, .int v35, .int v36, .ref m37, .ref m38, .ref m39, .ref m40, .long v41])), (m17, .inl (k 0, 30, .inl f17)), (m18, .inl (k 0, 250, .inl f18)), (m19, .inl (k 0, 40, .inl f19)), (m20, .inl (k 0, 120, .inl f20)), (m22, .inl (k 0, 600, .inl f22)), (m25, .inl (k 0, 4, .inl o_7)), (m26, .inl (k 0, 8, .inl o_8)), (m39, .inl (k 0, 44, .inl o_9))] H1 := hP
        have hD : va_D A [(m16, .inl (k 0, 5, .inl f16)), (mo, .inr (12, [.int 0, .ref m1, .ref m2, .ref m3, .ref m4, .ref m5, .int v6, .int v7, .int v8, .int v9, .int v10, .long v11, .int v12, .int v13, .int v14, .int v15, .ref m16, .ref m17, .ref m18, .ref m19, .ref m20, .ref m21, .ref m22, .ref m23, .int o_6, .ref m25, .ref m26, .ref m27, .ref m28, .ref m29, .int v30, .ref m31, .ref m32, .ref m33, .int v34, .int v35, .int v36, .ref m37, .ref m38, .ref m39, .ref m40, .long v41])), (m17, .inl (k 0, 30, .inl f17)), (m18, .inl (k 0, 250, .inl f18)), (m19, .inl (k 0, 40, .inl f19)), (m20, .inl (k 0, 120, .inl f20)), (m22, .inl (k 0, 600, .inl f22)), (m25, .inl (k 0, 4, .inl o_7)), (m26, .inl (k 0, 8, .inl o_8)), (m39, .inl (k 0, 44, .inl o_9))] := hD
        generalize H1 = H at hP hS ⊢
        have hw_24 : (0 ≤ r_23.toInt ∧ r_23.toInt ≤ 1) ∧ (r_23 = bitOf o_6 L35l3) := hw
        obtain ⟨hw_25, hw_26⟩ := hw_24
        clear hw
        refine lv_istore (lv' := [(4, .int r_23), (0, .ref mo), (1, .int L35l1), (2, .int L23l2), (3, .int L35l3)]) hx hb dX12_rests_53 hl (by decide) rfl (fun ls hl => ?_)
        refine lv_iconst (v := 0) hx hb dX12_rests_55 (by decide) ?_
        refine lv_istore (lv' := [(5, .int 0), (4, .int r_23), (0, .ref mo), (1, .int L35l1), (2, .int L23l2), (3, .int L35l3)]) hx hb dX12_rests_56 hl (by decide) rfl (fun ls hl => ?_)
        refine loop_r (Wg := fun H locs ls => W p l e _ s m _ below meth c H locs _ _ _ (F0 m 58 ls [])) (fun n9 H locs ls => ∃ (L58l4 : Int32) (L58l5 : Int32), n9 = (4 - L58l5.toInt).toNat ∧ (0 ≤ L58l4.toInt ∧ L58l4.toInt ≤ 1) ∧ (0 ≤ L58l5.toInt ∧ L58l5.toInt ≤ 4) ∧ va_P D vwCl [(m16, .inl (k 0, 5, .inl f16)), (mo, .inr (12, [.int 0, .ref m1, .ref m2, .ref m3, .ref m4, .ref m5, .int v6, .int v7, .int v8, .int v9, .int v10, .long v11, .int v12, .int v13, .int v14, .int v15, .ref m16, .ref m17, .ref m18, .ref m19, .ref m20, .ref m21, .ref m22, .ref m23, .int o_6, .ref m25, .ref m26, .ref m27, .ref m28, .ref m29, .int v30, .ref m31, .ref m32, .ref m33, .int v34, .int v35, .int v36, .ref m37, .ref m38, .ref m39, .ref m40, .long v41])), (m17, .inl (k 0, 30, .inl f17)), (m18, .inl (k 0, 250, .inl f18)), (m19, .inl (k 0, 40, .inl f19)), (m20, .inl (k 0, 120, .inl f20)), (m22, .inl (k 0, 600, .inl f22)), (m25, .inl (k 0, 4, .inl o_7)), (m26, .inl (k 0, 8, .inl o_8)), (m39, .inl (k 0, 44, .inl o_9))] H ∧ va_D A [(m16, .inl (k 0, 5, .inl f16)), (mo, .inr (12, [.int 0, .ref m1, .ref m2, .ref m3, .ref m4, .ref m5, .int v6, .int v7, .int v8, .int v9, .int v10, .long v11, .int v12, .int v13, .int v14, .int v15, .ref m16, .ref m17, .ref m18, .ref m19, .ref m20, .ref m21, .ref m22, .ref m23, .int o_6, .ref m25, .ref m26, .ref m27, .ref m28, .ref m29, .int v30, .ref m31, .ref m32, .ref m33, .int v34, .int v35, .int v36, .ref m37, .ref m38, .ref m39, .ref m40, .long v41])), (m17, .inl (k 0, 30, .inl f17)), (m18, .inl (k 0, 250, .inl f18)), (m19, .inl (k 0, 40, .inl f19)), (m20, .inl (k 0, 120, .inl f20)), (m22, .inl (k 0, 600, .inl f22)), (m25, .inl (k 0, 4, .inl o_7)), (m26, .inl (k 0, 8, .inl o_8)), (m39, .inl (k 0, 44, .inl o_9))] ∧ va_S A s.heap H locs ∧ lv_has ls 6 [(0, .ref mo), (1, .int L35l1), (2, .int L23l2), (3, .int L35l3), (4, .int L58l4), (5, .int L58l5)]) (fun n9 H locs ls hI ih_27 => ?_) _ _ _ _ ⟨r_23, 0, rfl, (show 0 ≤ r_23.toInt ∧ r_23.toInt ≤ 1 from by omega), (show 0 ≤ 0 ∧ 0 ≤ 4 from by omega), hP.sub (ws' := [(m16, .inl (k 0, 5, .inl f16)), (mo, .inr (12, [.int 0, .ref m1, .ref m2, .ref m3, .ref m4, .ref m5, .int v6, .int v7, .int v8, .int v9, .int v10, .long v11, .int v12, .int v13, .int v14, .int v15, .ref m16, .ref m17, .ref m18, .ref m19, .ref m20, .ref m21, .ref m22, .ref m23, .int o_6, .ref m25, .ref m26, .ref m27, .ref m28, .ref m29, .int v30, .ref m31, .ref m32, .ref m33, .int v34, .int v35, .int v36, .ref m37, .ref m38, .ref m39, .ref m40, .long v41])), (m17, .inl (k 0, 30, .inl f17)), (m18, .inl (k 0, 250, .inl f18)), (m19, .inl (k 0, 40, .inl f19)), (m20, .inl (k 0, 120, .inl f20)), (m22, .inl (k 0, 600, .inl f22)), (m25, .inl (k 0, 4, .inl o_7)), (m26, .inl (k 0, 8, .inl o_8)), (m39, .inl (k 0, 44, .inl o_9))]) [0, 1, 2, 3, 4, 5, 6, 7, 8, 9] rfl, hD.sub (ws' := [(m16, .inl (k 0, 5, .inl f16)), (mo, .inr (12, [.int 0, .ref m1, .ref m2, .ref m3, .ref m4, .ref m5, .int v6, .int v7, .int v8, .int v9, .int v10, .long v11, .int v12, .int v13, .int v14, .int v15, .ref m16, .ref m17, .ref m18, .ref m19, .ref m20, .ref m21, .ref m22, .ref m23, .int o_6, .ref m25, .ref m26, .ref m27, .ref m28, .ref m29, .int v30, .ref m31, .ref m32, .ref m33, .int v34, .int v35, .int v36, .ref m37, .ref m38, .ref m39, .ref m40, .long v41])), (m17, .inl (k 0, 30, .inl f17)), (m18, .inl (k 0, 250, .inl f18)), (m19, .inl (k 0, 40, .inl f19)), (m20, .inl (k 0, 120, .inl f20)), (m22, .inl (k 0, 600, .inl f22)), (m25, .inl (k 0, 4, .inl o_7)), (m26, .inl (k 0, 8, .inl o_8)), (m39, .inl (k 0, 44, .inl o_9))]) [0, 1, 2, 3, 4, 5, 6, 7, 8, 9] (by decide +kernel) rfl, hS, lv_sub hl [2, 3, 4, 5, 1, 0] rfl⟩
        clear hP hD hS hl
        obtain ⟨L58l4, L58l5, en_28, zL58l4, zL58l5, hP, hD, hS, hl⟩ := hI
        refine lv_iload hx hb dX12_rests_58 (lv_at hl 5 rfl) ?_
        refine lv_aload_n hx hb dX12_rests_60 rfl (lv_at hl 0 rfl) ?_
        refine va_get (D := D) (ci := 12) (v := .ref m17) (C := RX12) (T := TX12) (N := 42) hx hb hts iT_X12 hown hK hP 1 rfl rfl 17 (by decide) (hts _ tw_6_70) (fun _ h9 => h9) rfl dX12_rests_61 ?_
        refine lv_iconst (v := 2) hx hb dX12_rests_64 (by decide) ?_
        refine va_iald hx hb hK hP 2 0 rfl rfl (z_in (by decide) (by decide)) dX12_rests_65 ?_
        refine lv_topi (fun x_29 ex_29 => ?_)
        obtain rfl : x_16 = x_29 := ex_16.trans ex_29.symm
        refine lv_icmp_ge (tgt := 113) hx hb dX12_rests_66 (by decide) (fun h_30 => ?_) (fun h_30 => ?_)
        · skip
          have zh_30 : x_16.toInt ≤ L58l5.toInt := z_le h_30
          refine lv_iconst (v := 0) hx hb dX12_rests_113 (by decide) ?_
          refine lv_istore (lv' := [(5, .int 0), (0, .ref mo), (1, .int L35l1), (2, .int L23l2), (3, .int L35l3), (4, .int L58l4)]) hx hb dX12_rests_114 hl (by decide) rfl (fun ls hl => ?_)
          refine loop_r (Wg := fun H locs ls => W p l e _ s m _ below meth c H locs _ _ _ (F0 m 116 ls [])) (fun n9 H locs ls => ∃ (L116l4 : Int32) (L116l5 : Int32), n9 = (10 - L116l5.toInt).toNat ∧ (0 ≤ L116l4.toInt ∧ L116l4.toInt ≤ 1) ∧ (0 ≤ L116l5.toInt ∧ L116l5.toInt ≤ 10) ∧ va_P D vwCl [(m16, .inl (k 0, 5, .inl f16)), (mo, .inr (12, [.int 0, .ref m1, .ref m2, .ref m3, .ref m4, .ref m5, .int v6, .int v7, .int v8, .int v9, .int v10, .long v11, .int v12, .int v13, .int v14, .int v15, .ref m16, .ref m17, .ref m18, .ref m19, .ref m20, .ref m21, .ref m22, .ref m23, .int o_6, .ref m25, .ref m26, .ref m27, .ref m28, .ref m29, .int v30, .ref m31, .ref m32, .ref m33, .int v34, .int v35, .int v36, .ref m37, .ref m38, .ref m39, .ref m40, .long v41])), (m17, .inl (k 0, 30, .inl f17)), (m18, .inl (k 0, 250, .inl f18)), (m19, .inl (k 0, 40, .inl f19)), (m20, .inl (k 0, 120, .inl f20)), (m22, .inl (k 0, 600, .inl f22)), (m25, .inl (k 0, 4, .inl o_7)), (m26, .inl (k 0, 8, .inl o_8)), (m39, .inl (k 0, 44, .inl o_9))] H ∧ va_D A [(m16, .inl (k 0, 5, .inl f16)), (mo, .inr (12, [.int 0, .ref m1, .ref m2, .ref m3, .ref m4, .ref m5, .int v6, .int v7, .int v8, .int v9, .int v10, .long v11, .int v12, .int v13, .int v14, .int v15, .ref m16, .ref m17, .ref m18, .ref m19, .ref m20, .ref m21, .ref m22, .ref m23, .int o_6, .ref m25, .ref m26, .ref m27, .ref m28, .ref m29, .int v30, .ref m31, .ref m32, .ref m33, .int v34, .int v35, .int v36, .ref m37, .ref m38, .ref m39, .ref m40, .long v41])), (m17, .inl (k 0, 30, .inl f17)), (m18, .inl (k 0, 250, .inl f18)), (m19, .inl (k 0, 40, .inl f19)), (m20, .inl (k 0, 120, .inl f20)), (m22, .inl (k 0, 600, .inl f22)), (m25, .inl (k 0, 4, .inl o_7)), (m26, .inl (k 0, 8, .inl o_8)), (m39, .inl (k 0, 44, .inl o_9))] ∧ va_S A s.heap H locs ∧ lv_has ls 6 [(0, .ref mo), (1, .int L35l1), (2, .int L23l2), (3, .int L35l3), (4, .int L116l4), (5, .int L116l5)]) (fun n9 H locs ls hI ih_31 => ?_) _ _ _ _ ⟨L58l4, 0, rfl, (show 0 ≤ L58l4.toInt ∧ L58l4.toInt ≤ 1 from by omega), (show 0 ≤ 0 ∧ 0 ≤ 10 from by omega), hP.sub (ws' := [(m16, .inl (k 0, 5, .inl f16)), (mo, .inr (12, [.int 0, .ref m1, .ref m2, .ref m3, .ref m4, .ref m5, .int v6, .int v7, .int v8, .int v9, .int v10, .long v11, .int v12, .int v13, .int v14, .int v15, .ref m16, .ref m17, .ref m18, .ref m19, .ref m20, .ref m21, .ref m22, .ref m23, .int o_6, .ref m25, .ref m26, .ref m27, .ref m28, .ref m29, .int v30, .ref m31, .ref m32, .ref m33, .int v34, .int v35, .int v36, .ref m37, .ref m38, .ref m39, .ref m40, .long v41])), (m17, .inl (k 0, 30, .inl f17)), (m18, .inl (k 0, 250, .inl f18)), (m19, .inl (k 0, 40, .inl f19)), (m20, .inl (k 0, 120, .inl f20)), (m22, .inl (k 0, 600, .inl f22)), (m25, .inl (k 0, 4, .inl o_7)), (m26, .inl (k 0, 8, .inl o_8)), (m39, .inl (k 0, 44, .inl o_9))]) [0, 1, 2, 3, 4, 5, 6, 7, 8, 9] rfl, hD.sub (ws' := [(m16, .inl (k 0, 5, .inl f16)), (mo, .inr (12, [.int 0, .ref m1, .ref m2, .ref m3, .ref m4, .ref m5, .int v6, .int v7, .int v8, .int v9, .int v10, .long v11, .int v12, .int v13, .int v14, .int v15, .ref m16, .ref m17, .ref m18, .ref m19, .ref m20, .ref m21, .ref m22, .ref m23, .int o_6, .ref m25, .ref m26, .ref m27, .ref m28, .ref m29, .int v30, .ref m31, .ref m32, .ref m33, .int v34, .int v35, .int v36, .ref m37, .ref m38, .ref m39, .ref m40, .long v41])), (m17, .inl (k 0, 30, .inl f17)), (m18, .inl (k 0, 250, .inl f18)), (m19, .inl (k 0, 40, .inl f19)), (m20, .inl (k 0, 120, .inl f20)), (m22, .inl (k 0, 600, .inl f22)), (m25, .inl (k 0, 4, .inl o_7)), (m26, .inl (k 0, 8, .inl o_8)), (m39, .inl (k 0, 44, .inl o_9))]) [0, 1, 2, 3, 4, 5, 6, 7, 8, 9] (by decide +kernel) rfl, hS, lv_sub hl [1, 2, 3, 4, 5, 0] rfl⟩
          clear hP hD hS hl
          obtain ⟨L116l4, L116l5, en_32, zL116l4, zL116l5, hP, hD, hS, hl⟩ := hI
          refine lv_iload hx hb dX12_rests_116 (lv_at hl 5 rfl) ?_
          refine lv_aload_n hx hb dX12_rests_118 rfl (lv_at hl 0 rfl) ?_
          refine va_get (D := D) (ci := 12) (v := .ref m17) (C := RX12) (T := TX12) (N := 42) hx hb hts iT_X12 hown hK hP 1 rfl rfl 17 (by decide) (hts _ tw_6_70) (fun _ h9 => h9) rfl dX12_rests_119 ?_
          refine lv_iconst (v := 1) hx hb dX12_rests_122 (by decide) ?_
          refine va_iald hx hb hK hP 2 0 rfl rfl (z_in (by decide) (by decide)) dX12_rests_123 ?_
          refine lv_topi (fun x_33 ex_33 => ?_)
          obtain rfl : x_20 = x_33 := ex_20.trans ex_33.symm
          refine lv_icmp_ge (tgt := 171) hx hb dX12_rests_124 (by decide) (fun h_34 => ?_) (fun h_34 => ?_)
          · skip
            have zh_34 : x_20.toInt ≤ L116l5.toInt := z_le h_34
            refine lv_iload_n hx hb dX12_rests_171 rfl (lv_at hl 1 rfl) ?_
            refine lv_iload hx hb dX12_rests_172 (lv_at hl 4 rfl) ?_
            refine lv_if_eq (tgt := 181) hx hb dX12_rests_174 (by decide) (fun h_35 => ?_) (fun h_35 => ?_)
            · skip
              have zh_35 : L116l4.toInt = 0 := z_eq h_35
              refine lv_iconst (v := 0) hx hb dX12_rests_181 (by decide) ?_
              refine lv_iadd hx hb dX12_rests_182 ?_
              refine lv_topi (fun x_36 ex_36 => ?_)
              have zrL35l1 := z_rng L35l1
              have zx_36 : x_36.toInt = L35l1.toInt + 0 := by rw [ex_36]; exact z_add rfl rfl (by omega) (by omega)
              refine lv_istore_n (lv' := [(1, .int x_36), (0, .ref mo), (2, .int L23l2), (3, .int L35l3), (4, .int L116l4), (5, .int L116l5)]) hx hb dX12_rests_183 rfl hl (by decide) rfl (fun ls hl => ?_)
              obtain ⟨x_37, ex_37⟩ : ∃ y : Int32, y = L35l3 + 1 := ⟨_, rfl⟩
              have zx_37 : x_37.toInt = L35l3.toInt + 1 := by rw [ex_37]; exact z_add rfl rfl (by omega) (by omega)
              refine lv_iinc (v := x_37) (lv' := [(3, .int x_37), (1, .int x_36), (0, .ref mo), (2, .int L23l2), (4, .int L116l4), (5, .int L116l5)]) hx hb dX12_rests_184 hl (k := 3) rfl (by rw [ex_37]; rfl) (by decide) rfl (fun ls hl => ?_)
              refine lv_goto (tgt := 35) hx hb dX12_rests_187 (by decide) ?_
              exact ih_18 _ _ _ _ (by omega) ⟨x_36, x_37, rfl, (show 0 ≤ x_37.toInt ∧ x_37.toInt ≤ 10 from by omega), hP.sub (ws' := [(m16, .inl (k 0, 5, .inl f16)), (mo, .inr (12, [.int 0, .ref m1, .ref m2, .ref m3, .ref m4, .ref m5, .int v6, .int v7, .int v8, .int v9, .int v10, .long v11, .int v12, .int v13, .int v14, .int v15, .ref m16, .ref m17, .ref m18, .ref m19, .ref m20, .ref m21, .ref m22, .ref m23, .int o_6, .ref m25, .ref m26, .ref m27, .ref m28, .ref m29, .int v30, .ref m31, .ref m32, .ref m33, .int v34, .int v35, .int v36, .ref m37, .ref m38, .ref m39, .ref m40, .long v41])), (m17, .inl (k 0, 30, .inl f17)), (m18, .inl (k 0, 250, .inl f18)), (m19, .inl (k 0, 40, .inl f19)), (m20, .inl (k 0, 120, .inl f20)), (m22, .inl (k 0, 600, .inl f22)), (m25, .inl (k 0, 4, .inl o_7)), (m26, .inl (k 0, 8, .inl o_8)), (m39, .inl (k 0, 44, .inl o_9))]) [0, 1, 2, 3, 4, 5, 6, 7, 8, 9] rfl, hD.sub (ws' := [(m16, .inl (k 0, 5, .inl f16)), (mo, .inr (12, [.int 0, .ref m1, .ref m2, .ref m3, .ref m4, .ref m5, .int v6, .int v7, .int v8, .int v9, .int v10, .long v11, .int v12, .int v13, .int v14, .int v15, .ref m16, .ref m17, .ref m18, .ref m19, .ref m20, .ref m21, .ref m22, .ref m23, .int o_6, .ref m25, .ref m26, .ref m27, .ref m28, .ref m29, .int v30, .ref m31, .ref m32, .ref m33, .int v34, .int v35, .int v36, .ref m37, .ref m38, .ref m39, .ref m40, .long v41])), (m17, .inl (k 0, 30, .inl f17)), (m18, .inl (k 0, 250, .inl f18)), (m19, .inl (k 0, 40, .inl f19)), (m20, .inl (k 0, 120, .inl f20)), (m22, .inl (k 0, 600, .inl f22)), (m25, .inl (k 0, 4, .inl o_7)), (m26, .inl (k 0, 8, .inl o_8)), (m39, .inl (k 0, 44, .inl o_9))]) [0, 1, 2, 3, 4, 5, 6, 7, 8, 9] (by decide +kernel) rfl, hS, lv_sub hl [2, 1, 3, 0] rfl⟩
            · skip
              have zh_35 : ¬ L116l4.toInt = 0 := z_ne h_35
              refine lv_iconst (v := 1) hx hb dX12_rests_177 (by decide) ?_
              refine lv_goto (tgt := 182) hx hb dX12_rests_178 (by decide) ?_
              refine lv_iadd hx hb dX12_rests_182 ?_
              refine lv_topi (fun x_38 ex_38 => ?_)
              have zrL35l1 := z_rng L35l1
              refine lv_istore_n (lv' := [(1, .int x_38), (0, .ref mo), (2, .int L23l2), (3, .int L35l3), (4, .int L116l4), (5, .int L116l5)]) hx hb dX12_rests_183 rfl hl (by decide) rfl (fun ls hl => ?_)
              obtain ⟨x_39, ex_39⟩ : ∃ y : Int32, y = L35l3 + 1 := ⟨_, rfl⟩
              have zx_39 : x_39.toInt = L35l3.toInt + 1 := by rw [ex_39]; exact z_add rfl rfl (by omega) (by omega)
              refine lv_iinc (v := x_39) (lv' := [(3, .int x_39), (1, .int x_38), (0, .ref mo), (2, .int L23l2), (4, .int L116l4), (5, .int L116l5)]) hx hb dX12_rests_184 hl (k := 3) rfl (by rw [ex_39]; rfl) (by decide) rfl (fun ls hl => ?_)
              refine lv_goto (tgt := 35) hx hb dX12_rests_187 (by decide) ?_
              exact ih_18 _ _ _ _ (by omega) ⟨x_38, x_39, rfl, (show 0 ≤ x_39.toInt ∧ x_39.toInt ≤ 10 from by omega), hP.sub (ws' := [(m16, .inl (k 0, 5, .inl f16)), (mo, .inr (12, [.int 0, .ref m1, .ref m2, .ref m3, .ref m4, .ref m5, .int v6, .int v7, .int v8, .int v9, .int v10, .long v11, .int v12, .int v13, .int v14, .int v15, .ref m16, .ref m17, .ref m18, .ref m19, .ref m20, .ref m21, .ref m22, .ref m23, .int o_6, .ref m25, .ref m26, .ref m27, .ref m28, .ref m29, .int v30, .ref m31, .ref m32, .ref m33, .int v34, .int v35, .int v36, .ref m37, .ref m38, .ref m39, .ref m40, .long v41])), (m17, .inl (k 0, 30, .inl f17)), (m18, .inl (k 0, 250, .inl f18)), (m19, .inl (k 0, 40, .inl f19)), (m20, .inl (k 0, 120, .inl f20)), (m22, .inl (k 0, 600, .inl f22)), (m25, .inl (k 0, 4, .inl o_7)), (m26, .inl (k 0, 8, .inl o_8)), (m39, .inl (k 0, 44, .inl o_9))]) [0, 1, 2, 3, 4, 5, 6, 7, 8, 9] rfl, hD.sub (ws' := [(m16, .inl (k 0, 5, .inl f16)), (mo, .inr (12, [.int 0, .ref m1, .ref m2, .ref m3, .ref m4, .ref m5, .int v6, .int v7, .int v8, .int v9, .int v10, .long v11, .int v12, .int v13, .int v14, .int v15, .ref m16, .ref m17, .ref m18, .ref m19, .ref m20, .ref m21, .ref m22, .ref m23, .int o_6, .ref m25, .ref m26, .ref m27, .ref m28, .ref m29, .int v30, .ref m31, .ref m32, .ref m33, .int v34, .int v35, .int v36, .ref m37, .ref m38, .ref m39, .ref m40, .long v41])), (m17, .inl (k 0, 30, .inl f17)), (m18, .inl (k 0, 250, .inl f18)), (m19, .inl (k 0, 40, .inl f19)), (m20, .inl (k 0, 120, .inl f20)), (m22, .inl (k 0, 600, .inl f22)), (m25, .inl (k 0, 4, .inl o_7)), (m26, .inl (k 0, 8, .inl o_8)), (m39, .inl (k 0, 44, .inl o_9))]) [0, 1, 2, 3, 4, 5, 6, 7, 8, 9] (by decide +kernel) rfl, hS, lv_sub hl [2, 1, 3, 0] rfl⟩
          · skip
            have zh_34 : L116l5.toInt < x_20.toInt := z_nle h_34
            refine lv_iload hx hb dX12_rests_127 (lv_at hl 4 rfl) ?_
            refine lv_if_eq (tgt := 171) hx hb dX12_rests_129 (by decide) (fun h_40 => ?_) (fun h_40 => ?_)
            · skip
              have zh_40 : L116l4.toInt = 0 := z_eq h_40
              refine lv_iload_n hx hb dX12_rests_171 rfl (lv_at hl 1 rfl) ?_
              refine lv_iload hx hb dX12_rests_172 (lv_at hl 4 rfl) ?_
              refine lv_if_eq (tgt := 181) hx hb dX12_rests_174 (by decide) (fun h_41 => ?_) (fun h_41 => ?_)
              · skip
                have zh_41 : L116l4.toInt = 0 := z_eq h_41
                refine lv_iconst (v := 0) hx hb dX12_rests_181 (by decide) ?_
                refine lv_iadd hx hb dX12_rests_182 ?_
                refine lv_topi (fun x_42 ex_42 => ?_)
                have zrL35l1 := z_rng L35l1
                have zx_42 : x_42.toInt = L35l1.toInt + 0 := by rw [ex_42]; exact z_add rfl rfl (by omega) (by omega)
                refine lv_istore_n (lv' := [(1, .int x_42), (0, .ref mo), (2, .int L23l2), (3, .int L35l3), (4, .int L116l4), (5, .int L116l5)]) hx hb dX12_rests_183 rfl hl (by decide) rfl (fun ls hl => ?_)
                obtain ⟨x_43, ex_43⟩ : ∃ y : Int32, y = L35l3 + 1 := ⟨_, rfl⟩
                have zx_43 : x_43.toInt = L35l3.toInt + 1 := by rw [ex_43]; exact z_add rfl rfl (by omega) (by omega)
                refine lv_iinc (v := x_43) (lv' := [(3, .int x_43), (1, .int x_42), (0, .ref mo), (2, .int L23l2), (4, .int L116l4), (5, .int L116l5)]) hx hb dX12_rests_184 hl (k := 3) rfl (by rw [ex_43]; rfl) (by decide) rfl (fun ls hl => ?_)
                refine lv_goto (tgt := 35) hx hb dX12_rests_187 (by decide) ?_
                exact ih_18 _ _ _ _ (by omega) ⟨x_42, x_43, rfl, (show 0 ≤ x_43.toInt ∧ x_43.toInt ≤ 10 from by omega), hP.sub (ws' := [(m16, .inl (k 0, 5, .inl f16)), (mo, .inr (12, [.int 0, .ref m1, .ref m2, .ref m3, .ref m4, .ref m5, .int v6, .int v7, .int v8, .int v9, .int v10, .long v11, .int v12, .int v13, .int v14, .int v15, .ref m16, .ref m17, .ref m18, .ref m19, .ref m20, .ref m21, .ref m22, .ref m23, .int o_6, .ref m25, .ref m26, .ref m27, .ref m28, .ref m29, .int v30, .ref m31, .ref m32, .ref m33, .int v34, .int v35, .int v36, .ref m37, .ref m38, .ref m39, .ref m40, .long v41])), (m17, .inl (k 0, 30, .inl f17)), (m18, .inl (k 0, 250, .inl f18)), (m19, .inl (k 0, 40, .inl f19)), (m20, .inl (k 0, 120, .inl f20)), (m22, .inl (k 0, 600, .inl f22)), (m25, .inl (k 0, 4, .inl o_7)), (m26, .inl (k 0, 8, .inl o_8)), (m39, .inl (k 0, 44, .inl o_9))]) [0, 1, 2, 3, 4, 5, 6, 7, 8, 9] rfl, hD.sub (ws' := [(m16, .inl (k 0, 5, .inl f16)), (mo, .inr (12, [.int 0, .ref m1, .ref m2, .ref m3, .ref m4, .ref m5, .int v6, .int v7, .int v8, .int v9, .int v10, .long v11, .int v12, .int v13, .int v14, .int v15, .ref m16, .ref m17, .ref m18, .ref m19, .ref m20, .ref m21, .ref m22, .ref m23, .int o_6, .ref m25, .ref m26, .ref m27, .ref m28, .ref m29, .int v30, .ref m31, .ref m32, .ref m33, .int v34, .int v35, .int v36, .ref m37, .ref m38, .ref m39, .ref m40, .long v41])), (m17, .inl (k 0, 30, .inl f17)), (m18, .inl (k 0, 250, .inl f18)), (m19, .inl (k 0, 40, .inl f19)), (m20, .inl (k 0, 120, .inl f20)), (m22, .inl (k 0, 600, .inl f22)), (m25, .inl (k 0, 4, .inl o_7)), (m26, .inl (k 0, 8, .inl o_8)), (m39, .inl (k 0, 44, .inl o_9))]) [0, 1, 2, 3, 4, 5, 6, 7, 8, 9] (by decide +kernel) rfl, hS, lv_sub hl [2, 1, 3, 0] rfl⟩
              · skip
                have zh_41 : ¬ L116l4.toInt = 0 := z_ne h_41
                exact False.elim (by omega)
            · skip
              have zh_40 : ¬ L116l4.toInt = 0 := z_ne h_40
              refine lv_aload_n hx hb dX12_rests_132 rfl (lv_at hl 0 rfl) ?_
              refine va_get (D := D) (ci := 12) (v := .ref m39) (C := RX12) (T := TX12) (N := 42) hx hb hts iT_X12 hown hK hP 1 rfl rfl 39 (by decide) (hts _ tw_6_92) (fun _ h9 => h9) rfl dX12_rests_133 ?_
              refine lv_bipush (v := 11) hx hb dX12_rests_136 (by decide) ?_
              refine lv_iload_n hx hb dX12_rests_138 rfl (lv_at hl 2 rfl) ?_
              refine lv_imul hx hb dX12_rests_139 ?_
              refine lv_topi (fun x_44 ex_44 => ?_)
              have zx_44 : x_44.toInt = 11 * L23l2.toInt := by rw [ex_44]; exact z_mul rfl rfl (by omega) (by omega)
              refine lv_iload hx hb dX12_rests_140 (lv_at hl 5 rfl) ?_
              refine lv_iadd hx hb dX12_rests_142 ?_
              refine lv_topi (fun x_45 ex_45 => ?_)
              have zx_45 : x_45.toInt = x_44.toInt + L116l5.toInt := by rw [ex_45]; exact z_add rfl rfl (by omega) (by omega)
              refine va_iald hx hb hK hP 9 0 rfl rfl (z_in (by omega) (by omega)) dX12_rests_143 ?_
              refine lv_topi (fun x_46 ex_46 => ?_)
              refine lv_aload_n hx hb dX12_rests_144 rfl (lv_at hl 0 rfl) ?_
              refine va_get (D := D) (ci := 12) (v := .ref m39) (C := RX12) (T := TX12) (N := 42) hx hb hts iT_X12 hown hK hP 1 rfl rfl 39 (by decide) (hts _ tw_6_92) (fun _ h9 => h9) rfl dX12_rests_145 ?_
              refine lv_bipush (v := 11) hx hb dX12_rests_148 (by decide) ?_
              refine lv_iload_n hx hb dX12_rests_150 rfl (lv_at hl 2 rfl) ?_
              refine lv_imul hx hb dX12_rests_151 ?_
              refine lv_topi (fun x_47 ex_47 => ?_)
              obtain rfl : x_44 = x_47 := ex_44.trans ex_47.symm
              refine lv_iload_n hx hb dX12_rests_152 rfl (lv_at hl 3 rfl) ?_
              refine lv_iadd hx hb dX12_rests_153 ?_
              refine lv_topi (fun x_48 ex_48 => ?_)
              have zx_48 : x_48.toInt = x_44.toInt + L35l3.toInt := by rw [ex_48]; exact z_add rfl rfl (by omega) (by omega)
              refine va_iald hx hb hK hP 9 0 rfl rfl (z_in (by omega) (by omega)) dX12_rests_154 ?_
              refine lv_topi (fun x_49 ex_49 => ?_)
              refine lv_icmp_gt (tgt := 162) hx hb dX12_rests_155 (by decide) (fun h_50 => ?_) (fun h_50 => ?_)
              · skip
                have zh_50 : x_49.toInt < x_46.toInt := z_lt h_50
                refine lv_iconst (v := 0) hx hb dX12_rests_162 (by decide) ?_
                refine lv_istore (lv' := [(4, .int 0), (0, .ref mo), (1, .int L35l1), (2, .int L23l2), (3, .int L35l3), (5, .int L116l5)]) hx hb dX12_rests_163 hl (by decide) rfl (fun ls hl => ?_)
                obtain ⟨x_51, ex_51⟩ : ∃ y : Int32, y = L116l5 + 1 := ⟨_, rfl⟩
                have zx_51 : x_51.toInt = L116l5.toInt + 1 := by rw [ex_51]; exact z_add rfl rfl (by omega) (by omega)
                refine lv_iinc (v := x_51) (lv' := [(5, .int x_51), (4, .int 0), (0, .ref mo), (1, .int L35l1), (2, .int L23l2), (3, .int L35l3)]) hx hb dX12_rests_165 hl (k := 5) rfl (by rw [ex_51]; rfl) (by decide) rfl (fun ls hl => ?_)
                refine lv_goto (tgt := 116) hx hb dX12_rests_168 (by decide) ?_
                exact ih_31 _ _ _ _ (by omega) ⟨0, x_51, rfl, (show 0 ≤ 0 ∧ 0 ≤ 1 from by omega), (show 0 ≤ x_51.toInt ∧ x_51.toInt ≤ 10 from by omega), hP.sub (ws' := [(m16, .inl (k 0, 5, .inl f16)), (mo, .inr (12, [.int 0, .ref m1, .ref m2, .ref m3, .ref m4, .ref m5, .int v6, .int v7, .int v8, .int v9, .int v10, .long v11, .int v12, .int v13, .int v14, .int v15, .ref m16, .ref m17, .ref m18, .ref m19, .ref m20, .ref m21, .ref m22, .ref m23, .int o_6, .ref m25, .ref m26, .ref m27, .ref m28, .ref m29, .int v30, .ref m31, .ref m32, .ref m33, .int v34, .int v35, .int v36, .ref m37, .ref m38, .ref m39, .ref m40, .long v41])), (m17, .inl (k 0, 30, .inl f17)), (m18, .inl (k 0, 250, .inl f18)), (m19, .inl (k 0, 40, .inl f19)), (m20, .inl (k 0, 120, .inl f20)), (m22, .inl (k 0, 600, .inl f22)), (m25, .inl (k 0, 4, .inl o_7)), (m26, .inl (k 0, 8, .inl o_8)), (m39, .inl (k 0, 44, .inl o_9))]) [0, 1, 2, 3, 4, 5, 6, 7, 8, 9] rfl, hD.sub (ws' := [(m16, .inl (k 0, 5, .inl f16)), (mo, .inr (12, [.int 0, .ref m1, .ref m2, .ref m3, .ref m4, .ref m5, .int v6, .int v7, .int v8, .int v9, .int v10, .long v11, .int v12, .int v13, .int v14, .int v15, .ref m16, .ref m17, .ref m18, .ref m19, .ref m20, .ref m21, .ref m22, .ref m23, .int o_6, .ref m25, .ref m26, .ref m27, .ref m28, .ref m29, .int v30, .ref m31, .ref m32, .ref m33, .int v34, .int v35, .int v36, .ref m37, .ref m38, .ref m39, .ref m40, .long v41])), (m17, .inl (k 0, 30, .inl f17)), (m18, .inl (k 0, 250, .inl f18)), (m19, .inl (k 0, 40, .inl f19)), (m20, .inl (k 0, 120, .inl f20)), (m22, .inl (k 0, 600, .inl f22)), (m25, .inl (k 0, 4, .inl o_7)), (m26, .inl (k 0, 8, .inl o_8)), (m39, .inl (k 0, 44, .inl o_9))]) [0, 1, 2, 3, 4, 5, 6, 7, 8, 9] (by decide +kernel) rfl, hS, lv_sub hl [2, 3, 4, 5, 1, 0] rfl⟩
              · skip
                have zh_50 : x_46.toInt ≤ x_49.toInt := z_nlt h_50
                refine lv_iconst (v := 1) hx hb dX12_rests_158 (by decide) ?_
                refine lv_goto (tgt := 163) hx hb dX12_rests_159 (by decide) ?_
                refine lv_istore (lv' := [(4, .int 1), (0, .ref mo), (1, .int L35l1), (2, .int L23l2), (3, .int L35l3), (5, .int L116l5)]) hx hb dX12_rests_163 hl (by decide) rfl (fun ls hl => ?_)
                obtain ⟨x_52, ex_52⟩ : ∃ y : Int32, y = L116l5 + 1 := ⟨_, rfl⟩
                have zx_52 : x_52.toInt = L116l5.toInt + 1 := by rw [ex_52]; exact z_add rfl rfl (by omega) (by omega)
                refine lv_iinc (v := x_52) (lv' := [(5, .int x_52), (4, .int 1), (0, .ref mo), (1, .int L35l1), (2, .int L23l2), (3, .int L35l3)]) hx hb dX12_rests_165 hl (k := 5) rfl (by rw [ex_52]; rfl) (by decide) rfl (fun ls hl => ?_)
                refine lv_goto (tgt := 116) hx hb dX12_rests_168 (by decide) ?_
                exact ih_31 _ _ _ _ (by omega) ⟨1, x_52, rfl, (show 0 ≤ 1 ∧ 1 ≤ 1 from by omega), (show 0 ≤ x_52.toInt ∧ x_52.toInt ≤ 10 from by omega), hP.sub (ws' := [(m16, .inl (k 0, 5, .inl f16)), (mo, .inr (12, [.int 0, .ref m1, .ref m2, .ref m3, .ref m4, .ref m5, .int v6, .int v7, .int v8, .int v9, .int v10, .long v11, .int v12, .int v13, .int v14, .int v15, .ref m16, .ref m17, .ref m18, .ref m19, .ref m20, .ref m21, .ref m22, .ref m23, .int o_6, .ref m25, .ref m26, .ref m27, .ref m28, .ref m29, .int v30, .ref m31, .ref m32, .ref m33, .int v34, .int v35, .int v36, .ref m37, .ref m38, .ref m39, .ref m40, .long v41])), (m17, .inl (k 0, 30, .inl f17)), (m18, .inl (k 0, 250, .inl f18)), (m19, .inl (k 0, 40, .inl f19)), (m20, .inl (k 0, 120, .inl f20)), (m22, .inl (k 0, 600, .inl f22)), (m25, .inl (k 0, 4, .inl o_7)), (m26, .inl (k 0, 8, .inl o_8)), (m39, .inl (k 0, 44, .inl o_9))]) [0, 1, 2, 3, 4, 5, 6, 7, 8, 9] rfl, hD.sub (ws' := [(m16, .inl (k 0, 5, .inl f16)), (mo, .inr (12, [.int 0, .ref m1, .ref m2, .ref m3, .ref m4, .ref m5, .int v6, .int v7, .int v8, .int v9, .int v10, .long v11, .int v12, .int v13, .int v14, .int v15, .ref m16, .ref m17, .ref m18, .ref m19, .ref m20, .ref m21, .ref m22, .ref m23, .int o_6, .ref m25, .ref m26, .ref m27, .ref m28, .ref m29, .int v30, .ref m31, .ref m32, .ref m33, .int v34, .int v35, .int v36, .ref m37, .ref m38, .ref m39, .ref m40, .long v41])), (m17, .inl (k 0, 30, .inl f17)), (m18, .inl (k 0, 250, .inl f18)), (m19, .inl (k 0, 40, .inl f19)), (m20, .inl (k 0, 120, .inl f20)), (m22, .inl (k 0, 600, .inl f22)), (m25, .inl (k 0, 4, .inl o_7)), (m26, .inl (k 0, 8, .inl o_8)), (m39, .inl (k 0, 44, .inl o_9))]) [0, 1, 2, 3, 4, 5, 6, 7, 8, 9] (by decide +kernel) rfl, hS, lv_sub hl [2, 3, 4, 5, 1, 0] rfl⟩
        · skip
          have zh_30 : L58l5.toInt < x_16.toInt := z_nle h_30
          refine lv_iload hx hb dX12_rests_69 (lv_at hl 4 rfl) ?_
          refine lv_if_eq (tgt := 113) hx hb dX12_rests_71 (by decide) (fun h_53 => ?_) (fun h_53 => ?_)
          · skip
            have zh_53 : L58l4.toInt = 0 := z_eq h_53
            refine lv_iconst (v := 0) hx hb dX12_rests_113 (by decide) ?_
            refine lv_istore (lv' := [(5, .int 0), (0, .ref mo), (1, .int L35l1), (2, .int L23l2), (3, .int L35l3), (4, .int L58l4)]) hx hb dX12_rests_114 hl (by decide) rfl (fun ls hl => ?_)
            refine lv_iload hx hb dX12_rests_116 (lv_at hl 0 rfl) ?_
            refine lv_aload_n hx hb dX12_rests_118 rfl (lv_at hl 1 rfl) ?_
            refine va_get (D := D) (ci := 12) (v := .ref m17) (C := RX12) (T := TX12) (N := 42) hx hb hts iT_X12 hown hK hP 1 rfl rfl 17 (by decide) (hts _ tw_6_70) (fun _ h9 => h9) rfl dX12_rests_119 ?_
            refine lv_iconst (v := 1) hx hb dX12_rests_122 (by decide) ?_
            refine va_iald hx hb hK hP 2 0 rfl rfl (z_in (by decide) (by decide)) dX12_rests_123 ?_
            refine lv_topi (fun x_54 ex_54 => ?_)
            obtain rfl : x_20 = x_54 := ex_20.trans ex_54.symm
            refine lv_icmp_ge (tgt := 171) hx hb dX12_rests_124 (by decide) (fun h_55 => ?_) (fun h_55 => ?_)
            · skip
              have zh_55 : x_20.toInt ≤ 0 := z_le h_55
              exact False.elim (by omega)
            · skip
              have zh_55 : 0 < x_20.toInt := z_nle h_55
              refine lv_iload hx hb dX12_rests_127 (lv_at hl 5 rfl) ?_
              refine lv_if_eq (tgt := 171) hx hb dX12_rests_129 (by decide) (fun h_56 => ?_) (fun h_56 => ?_)
              · skip
                have zh_56 : L58l4.toInt = 0 := z_eq h_56
                refine lv_iload_n hx hb dX12_rests_171 rfl (lv_at hl 2 rfl) ?_
                refine lv_iload hx hb dX12_rests_172 (lv_at hl 5 rfl) ?_
                refine lv_if_eq (tgt := 181) hx hb dX12_rests_174 (by decide) (fun h_57 => ?_) (fun h_57 => ?_)
                · skip
                  have zh_57 : L58l4.toInt = 0 := z_eq h_57
                  refine lv_iconst (v := 0) hx hb dX12_rests_181 (by decide) ?_
                  refine lv_iadd hx hb dX12_rests_182 ?_
                  refine lv_topi (fun x_58 ex_58 => ?_)
                  have zrL35l1 := z_rng L35l1
                  have zx_58 : x_58.toInt = L35l1.toInt + 0 := by rw [ex_58]; exact z_add rfl rfl (by omega) (by omega)
                  refine lv_istore_n (lv' := [(1, .int x_58), (5, .int 0), (0, .ref mo), (2, .int L23l2), (3, .int L35l3), (4, .int L58l4)]) hx hb dX12_rests_183 rfl hl (by decide) rfl (fun ls hl => ?_)
                  obtain ⟨x_59, ex_59⟩ : ∃ y : Int32, y = L35l3 + 1 := ⟨_, rfl⟩
                  have zx_59 : x_59.toInt = L35l3.toInt + 1 := by rw [ex_59]; exact z_add rfl rfl (by omega) (by omega)
                  refine lv_iinc (v := x_59) (lv' := [(3, .int x_59), (1, .int x_58), (5, .int 0), (0, .ref mo), (2, .int L23l2), (4, .int L58l4)]) hx hb dX12_rests_184 hl (k := 4) rfl (by rw [ex_59]; rfl) (by decide) rfl (fun ls hl => ?_)
                  refine lv_goto (tgt := 35) hx hb dX12_rests_187 (by decide) ?_
                  exact ih_18 _ _ _ _ (by omega) ⟨x_58, x_59, rfl, (show 0 ≤ x_59.toInt ∧ x_59.toInt ≤ 10 from by omega), hP.sub (ws' := [(m16, .inl (k 0, 5, .inl f16)), (mo, .inr (12, [.int 0, .ref m1, .ref m2, .ref m3, .ref m4, .ref m5, .int v6, .int v7, .int v8, .int v9, .int v10, .long v11, .int v12, .int v13, .int v14, .int v15, .ref m16, .ref m17, .ref m18, .ref m19, .ref m20, .ref m21, .ref m22, .ref m23, .int o_6, .ref m25, .ref m26, .ref m27, .ref m28, .ref m29, .int v30, .ref m31, .ref m32, .ref m33, .int v34, .int v35, .int v36, .ref m37, .ref m38, .ref m39, .ref m40, .long v41])), (m17, .inl (k 0, 30, .inl f17)), (m18, .inl (k 0, 250, .inl f18)), (m19, .inl (k 0, 40, .inl f19)), (m20, .inl (k 0, 120, .inl f20)), (m22, .inl (k 0, 600, .inl f22)), (m25, .inl (k 0, 4, .inl o_7)), (m26, .inl (k 0, 8, .inl o_8)), (m39, .inl (k 0, 44, .inl o_9))]) [0, 1, 2, 3, 4, 5, 6, 7, 8, 9] rfl, hD.sub (ws' := [(m16, .inl (k 0, 5, .inl f16)), (mo, .inr (12, [.int 0, .ref m1, .ref m2, .ref m3, .ref m4, .ref m5, .int v6, .int v7, .int v8, .int v9, .int v10, .long v11, .int v12, .int v13, .int v14, .int v15, .ref m16, .ref m17, .ref m18, .ref m19, .ref m20, .ref m21, .ref m22, .ref m23, .int o_6, .ref m25, .ref m26, .ref m27, .ref m28, .ref m29, .int v30, .ref m31, .ref m32, .ref m33, .int v34, .int v35, .int v36, .ref m37, .ref m38, .ref m39, .ref m40, .long v41])), (m17, .inl (k 0, 30, .inl f17)), (m18, .inl (k 0, 250, .inl f18)), (m19, .inl (k 0, 40, .inl f19)), (m20, .inl (k 0, 120, .inl f20)), (m22, .inl (k 0, 600, .inl f22)), (m25, .inl (k 0, 4, .inl o_7)), (m26, .inl (k 0, 8, .inl o_8)), (m39, .inl (k 0, 44, .inl o_9))]) [0, 1, 2, 3, 4, 5, 6, 7, 8, 9] (by decide +kernel) rfl, hS, lv_sub hl [3, 1, 4, 0] rfl⟩
                · skip
                  have zh_57 : ¬ L58l4.toInt = 0 := z_ne h_57
                  exact False.elim (by omega)
              · skip
                have zh_56 : ¬ L58l4.toInt = 0 := z_ne h_56
                exact False.elim (by omega)
          · skip
            have zh_53 : ¬ L58l4.toInt = 0 := z_ne h_53
            refine lv_aload_n hx hb dX12_rests_74 rfl (lv_at hl 0 rfl) ?_
            refine va_get (D := D) (ci := 12) (v := .ref m39) (C := RX12) (T := TX12) (N := 42) hx hb hts iT_X12 hown hK hP 1 rfl rfl 39 (by decide) (hts _ tw_6_92) (fun _ h9 => h9) rfl dX12_rests_75 ?_
            refine lv_bipush (v := 11) hx hb dX12_rests_78 (by decide) ?_
            refine lv_iload hx hb dX12_rests_80 (lv_at hl 5 rfl) ?_
            refine lv_imul hx hb dX12_rests_82 ?_
            refine lv_topi (fun x_60 ex_60 => ?_)
            have zx_60 : x_60.toInt = 11 * L58l5.toInt := by rw [ex_60]; exact z_mul rfl rfl (by omega) (by omega)
            refine lv_iload_n hx hb dX12_rests_83 rfl (lv_at hl 3 rfl) ?_
            refine lv_iadd hx hb dX12_rests_84 ?_
            refine lv_topi (fun x_61 ex_61 => ?_)
            have zx_61 : x_61.toInt = x_60.toInt + L35l3.toInt := by rw [ex_61]; exact z_add rfl rfl (by omega) (by omega)
            refine va_iald hx hb hK hP 9 0 rfl rfl (z_in (by omega) (by omega)) dX12_rests_85 ?_
            refine lv_topi (fun x_62 ex_62 => ?_)
            refine lv_aload_n hx hb dX12_rests_86 rfl (lv_at hl 0 rfl) ?_
            refine va_get (D := D) (ci := 12) (v := .ref m39) (C := RX12) (T := TX12) (N := 42) hx hb hts iT_X12 hown hK hP 1 rfl rfl 39 (by decide) (hts _ tw_6_92) (fun _ h9 => h9) rfl dX12_rests_87 ?_
            refine lv_bipush (v := 11) hx hb dX12_rests_90 (by decide) ?_
            refine lv_iload_n hx hb dX12_rests_92 rfl (lv_at hl 2 rfl) ?_
            refine lv_imul hx hb dX12_rests_93 ?_
            refine lv_topi (fun x_63 ex_63 => ?_)
            have zx_63 : x_63.toInt = 11 * L23l2.toInt := by rw [ex_63]; exact z_mul rfl rfl (by omega) (by omega)
            refine lv_iload_n hx hb dX12_rests_94 rfl (lv_at hl 3 rfl) ?_
            refine lv_iadd hx hb dX12_rests_95 ?_
            refine lv_topi (fun x_64 ex_64 => ?_)
            have zx_64 : x_64.toInt = x_63.toInt + L35l3.toInt := by rw [ex_64]; exact z_add rfl rfl (by omega) (by omega)
            refine va_iald hx hb hK hP 9 0 rfl rfl (z_in (by omega) (by omega)) dX12_rests_96 ?_
            refine lv_topi (fun x_65 ex_65 => ?_)
            refine lv_icmp_lt (tgt := 104) hx hb dX12_rests_97 (by decide) (fun h_66 => ?_) (fun h_66 => ?_)
            · skip
              have zh_66 : x_62.toInt < x_65.toInt := z_lt h_66
              refine lv_iconst (v := 0) hx hb dX12_rests_104 (by decide) ?_
              refine lv_istore (lv' := [(4, .int 0), (0, .ref mo), (1, .int L35l1), (2, .int L23l2), (3, .int L35l3), (5, .int L58l5)]) hx hb dX12_rests_105 hl (by decide) rfl (fun ls hl => ?_)
              obtain ⟨x_67, ex_67⟩ : ∃ y : Int32, y = L58l5 + 1 := ⟨_, rfl⟩
              have zx_67 : x_67.toInt = L58l5.toInt + 1 := by rw [ex_67]; exact z_add rfl rfl (by omega) (by omega)
              refine lv_iinc (v := x_67) (lv' := [(5, .int x_67), (4, .int 0), (0, .ref mo), (1, .int L35l1), (2, .int L23l2), (3, .int L35l3)]) hx hb dX12_rests_107 hl (k := 5) rfl (by rw [ex_67]; rfl) (by decide) rfl (fun ls hl => ?_)
              refine lv_goto (tgt := 58) hx hb dX12_rests_110 (by decide) ?_
              exact ih_27 _ _ _ _ (by omega) ⟨0, x_67, rfl, (show 0 ≤ 0 ∧ 0 ≤ 1 from by omega), (show 0 ≤ x_67.toInt ∧ x_67.toInt ≤ 4 from by omega), hP.sub (ws' := [(m16, .inl (k 0, 5, .inl f16)), (mo, .inr (12, [.int 0, .ref m1, .ref m2, .ref m3, .ref m4, .ref m5, .int v6, .int v7, .int v8, .int v9, .int v10, .long v11, .int v12, .int v13, .int v14, .int v15, .ref m16, .ref m17, .ref m18, .ref m19, .ref m20, .ref m21, .ref m22, .ref m23, .int o_6, .ref m25, .ref m26, .ref m27, .ref m28, .ref m29, .int v30, .ref m31, .ref m32, .ref m33, .int v34, .int v35, .int v36, .ref m37, .ref m38, .ref m39, .ref m40, .long v41])), (m17, .inl (k 0, 30, .inl f17)), (m18, .inl (k 0, 250, .inl f18)), (m19, .inl (k 0, 40, .inl f19)), (m20, .inl (k 0, 120, .inl f20)), (m22, .inl (k 0, 600, .inl f22)), (m25, .inl (k 0, 4, .inl o_7)), (m26, .inl (k 0, 8, .inl o_8)), (m39, .inl (k 0, 44, .inl o_9))]) [0, 1, 2, 3, 4, 5, 6, 7, 8, 9] rfl, hD.sub (ws' := [(m16, .inl (k 0, 5, .inl f16)), (mo, .inr (12, [.int 0, .ref m1, .ref m2, .ref m3, .ref m4, .ref m5, .int v6, .int v7, .int v8, .int v9, .int v10, .long v11, .int v12, .int v13, .int v14, .int v15, .ref m16, .ref m17, .ref m18, .ref m19, .ref m20, .ref m21, .ref m22, .ref m23, .int o_6, .ref m25, .ref m26, .ref m27, .ref m28, .ref m29, .int v30, .ref m31, .ref m32, .ref m33, .int v34, .int v35, .int v36, .ref m37, .ref m38, .ref m39, .ref m40, .long v41])), (m17, .inl (k 0, 30, .inl f17)), (m18, .inl (k 0, 250, .inl f18)), (m19, .inl (k 0, 40, .inl f19)), (m20, .inl (k 0, 120, .inl f20)), (m22, .inl (k 0, 600, .inl f22)), (m25, .inl (k 0, 4, .inl o_7)), (m26, .inl (k 0, 8, .inl o_8)), (m39, .inl (k 0, 44, .inl o_9))]) [0, 1, 2, 3, 4, 5, 6, 7, 8, 9] (by decide +kernel) rfl, hS, lv_sub hl [2, 3, 4, 5, 1, 0] rfl⟩
            · skip
              have zh_66 : x_65.toInt ≤ x_62.toInt := z_nlt h_66
              refine lv_iconst (v := 1) hx hb dX12_rests_100 (by decide) ?_
              refine lv_goto (tgt := 105) hx hb dX12_rests_101 (by decide) ?_
              refine lv_istore (lv' := [(4, .int 1), (0, .ref mo), (1, .int L35l1), (2, .int L23l2), (3, .int L35l3), (5, .int L58l5)]) hx hb dX12_rests_105 hl (by decide) rfl (fun ls hl => ?_)
              obtain ⟨x_68, ex_68⟩ : ∃ y : Int32, y = L58l5 + 1 := ⟨_, rfl⟩
              have zx_68 : x_68.toInt = L58l5.toInt + 1 := by rw [ex_68]; exact z_add rfl rfl (by omega) (by omega)
              refine lv_iinc (v := x_68) (lv' := [(5, .int x_68), (4, .int 1), (0, .ref mo), (1, .int L35l1), (2, .int L23l2), (3, .int L35l3)]) hx hb dX12_rests_107 hl (k := 5) rfl (by rw [ex_68]; rfl) (by decide) rfl (fun ls hl => ?_)
              refine lv_goto (tgt := 58) hx hb dX12_rests_110 (by decide) ?_
              exact ih_27 _ _ _ _ (by omega) ⟨1, x_68, rfl, (show 0 ≤ 1 ∧ 1 ≤ 1 from by omega), (show 0 ≤ x_68.toInt ∧ x_68.toInt ≤ 4 from by omega), hP.sub (ws' := [(m16, .inl (k 0, 5, .inl f16)), (mo, .inr (12, [.int 0, .ref m1, .ref m2, .ref m3, .ref m4, .ref m5, .int v6, .int v7, .int v8, .int v9, .int v10, .long v11, .int v12, .int v13, .int v14, .int v15, .ref m16, .ref m17, .ref m18, .ref m19, .ref m20, .ref m21, .ref m22, .ref m23, .int o_6, .ref m25, .ref m26, .ref m27, .ref m28, .ref m29, .int v30, .ref m31, .ref m32, .ref m33, .int v34, .int v35, .int v36, .ref m37, .ref m38, .ref m39, .ref m40, .long v41])), (m17, .inl (k 0, 30, .inl f17)), (m18, .inl (k 0, 250, .inl f18)), (m19, .inl (k 0, 40, .inl f19)), (m20, .inl (k 0, 120, .inl f20)), (m22, .inl (k 0, 600, .inl f22)), (m25, .inl (k 0, 4, .inl o_7)), (m26, .inl (k 0, 8, .inl o_8)), (m39, .inl (k 0, 44, .inl o_9))]) [0, 1, 2, 3, 4, 5, 6, 7, 8, 9] rfl, hD.sub (ws' := [(m16, .inl (k 0, 5, .inl f16)), (mo, .inr (12, [.int 0, .ref m1, .ref m2, .ref m3, .ref m4, .ref m5, .int v6, .int v7, .int v8, .int v9, .int v10, .long v11, .int v12, .int v13, .int v14, .int v15, .ref m16, .ref m17, .ref m18, .ref m19, .ref m20, .ref m21, .ref m22, .ref m23, .int o_6, .ref m25, .ref m26, .ref m27, .ref m28, .ref m29, .int v30, .ref m31, .ref m32, .ref m33, .int v34, .int v35, .int v36, .ref m37, .ref m38, .ref m39, .ref m40, .long v41])), (m17, .inl (k 0, 30, .inl f17)), (m18, .inl (k 0, 250, .inl f18)), (m19, .inl (k 0, 40, .inl f19)), (m20, .inl (k 0, 120, .inl f20)), (m22, .inl (k 0, 600, .inl f22)), (m25, .inl (k 0, 4, .inl o_7)), (m26, .inl (k 0, 8, .inl o_8)), (m39, .inl (k 0, 44, .inl o_9))]) [0, 1, 2, 3, 4, 5, 6, 7, 8, 9] (by decide +kernel) rfl, hS, lv_sub hl [2, 3, 4, 5, 1, 0] rfl⟩
  · skip
    have zh_4 : r_1.toInt = 0 := z_eq h_4
    refine lv_bipush (v := (-2)) hx hb dX12_rests_12 (by decide) ?_
    obtain ⟨hP9, hD9⟩ := sub2 hP hD (ws' := [(mo, .inr (12, [.int 0, .ref m1, .ref m2, .ref m3, .ref m4, .ref m5, .int v6, .int v7, .int v8, .int v9, .int v10, .long v11, .int v12, .int v13, .int v14, .int v15, .ref m16, .ref m17, .ref m18, .ref m19, .ref m20, .ref m21, .ref m22, .ref m23, .int v24, .ref m25, .ref m26, .ref m27, .ref m28, .ref m29, .int v30, .ref m31, .ref m32, .ref m33, .int v34, .int v35, .int v36, .ref m37, .ref m38, .ref m39, .ref m40, .long v41])), (m16, .inl (k 0, 5, .inl f16)), (m17, .inl (k 0, 30, .inl f17)), (m18, .inl (k 0, 250, .inl f18)), (m19, .inl (k 0, 40, .inl f19)), (m20, .inl (k 0, 120, .inl f20)), (m22, .inl (k 0, 600, .inl f22)), (m25, .inl (k 0, 4, .inl f25)), (m26, .inl (k 0, 8, .inl f26)), (m39, .inl (k 0, 44, .inl f39))]) [8, 9, 0, 1, 2, 3, 4, 5, 6, 7] (by decide +kernel) rfl
    exact W.iret (v := (-2)) hx hb hr (fun tZ ht hW => ⟨⟨(-2), (0, v24, f25, f26, f39), rfl, ⟨(show 0 ≤ 0 ∧ 0 ≤ 0 from by omega), (show 0 ≤ v24.toInt ∧ v24.toInt ≤ 1023 from by omega), hp_f25_0, hp_f26_0⟩, by rw [ht]; exact hP9, va_K.moved hW.alike hK, hD9⟩, hS.F ht⟩) hS.2.2 dX12_rests_14
set_option maxHeartbeats 4000000 in
set_option maxRecDepth 100000 in
theorem c_X12_townHas (l : Launch) (D : va_G) (k : Nat → ClassId) (mo : Nat) (p0 : Int32) (v0 : Int32) (m1 : Nat) (m2 : Nat) (m3 : Nat) (m4 : Nat) (m5 : Nat) (v6 : Int32) (v7 : Int32) (v8 : Int32) (v9 : Int32) (v10 : Int32) (v11 : Int64) (v12 : Int32) (v13 : Int32) (v14 : Int32) (v15 : Int32) (m16 : Nat) (m17 : Nat) (m18 : Nat) (m19 : Nat) (m20 : Nat) (m21 : Nat) (m22 : Nat) (m23 : Nat) (v24 : Int32) (m25 : Nat) (m26 : Nat) (m27 : Nat) (m28 : Nat) (m29 : Nat) (v30 : Int32) (m31 : Nat) (m32 : Nat) (m33 : Nat) (v34 : Int32) (v35 : Int32) (v36 : Int32) (m37 : Nat) (m38 : Nat) (m39 : Nat) (m40 : Nat) (v41 : Int64) (f17 : Nat → Int32) (f39 : Nat → Int32) (sz : Nat) (h_p0 : 0 ≤ p0.toInt ∧ p0.toInt ≤ 3) (h_v6 : 0 ≤ v6.toInt ∧ v6.toInt ≤ 1000) (h_v24 : 0 ≤ v24.toInt ∧ v24.toInt ≤ 1023) (hp_f17_0 : PR 30 6 0 0 8 f17) (hp_f17_1 : PR 30 6 1 0 10 f17) (hp_f17_2 : PR 30 6 2 0 4 f17) (hp_f17_3 : PR 30 6 3 0 6 f17) (hp_f17_4 : PR 30 6 4 0 2 f17) (hp_f17_5 : PR 30 6 5 0 40 f17) : Met l yX12_townHas (ww yX12_townHas cX12_townHas 4 (some .int)) ({ frames := 0, cells := 0, slots := 0, locals := 0 }) (Pre0 D k [(mo, .inr (12, [.int v0, .ref m1, .ref m2, .ref m3, .ref m4, .ref m5, .int v6, .int v7, .int v8, .int v9, .int v10, .long v11, .int v12, .int v13, .int v14, .int v15, .ref m16, .ref m17, .ref m18, .ref m19, .ref m20, .ref m21, .ref m22, .ref m23, .int v24, .ref m25, .ref m26, .ref m27, .ref m28, .ref m29, .int v30, .ref m31, .ref m32, .ref m33, .int v34, .int v35, .int v36, .ref m37, .ref m38, .ref m39, .ref m40, .long v41])), (m17, .inl (k 0, 30, .inl f17)), (m39, .inl (k 0, 44, .inl f39))] sz [.ref mo, .int p0]) (va_Qi (fun (r : Int32) (_ : Unit) => True) (fun (_ : Unit) tZ => Bw D k (va_A [(mo, .inr (12, [.int v0, .ref m1, .ref m2, .ref m3, .ref m4, .ref m5, .int v6, .int v7, .int v8, .int v9, .int v10, .long v11, .int v12, .int v13, .int v14, .int v15, .ref m16, .ref m17, .ref m18, .ref m19, .ref m20, .ref m21, .ref m22, .ref m23, .int v24, .ref m25, .ref m26, .ref m27, .ref m28, .ref m29, .int v30, .ref m31, .ref m32, .ref m33, .int v34, .int v35, .int v36, .ref m37, .ref m38, .ref m39, .ref m40, .long v41])), (m17, .inl (k 0, 30, .inl f17)), (m39, .inl (k 0, 44, .inl f39))] sz) [(mo, .inr (12, [.int v0, .ref m1, .ref m2, .ref m3, .ref m4, .ref m5, .int v6, .int v7, .int v8, .int v9, .int v10, .long v11, .int v12, .int v13, .int v14, .int v15, .ref m16, .ref m17, .ref m18, .ref m19, .ref m20, .ref m21, .ref m22, .ref m23, .int v24, .ref m25, .ref m26, .ref m27, .ref m28, .ref m29, .int v30, .ref m31, .ref m32, .ref m33, .int v34, .int v35, .int v36, .ref m37, .ref m38, .ref m39, .ref m40, .long v41])), (m17, .inl (k 0, 30, .inl f17)), (m39, .inl (k 0, 44, .inl f39))] tZ) (va_A [(mo, .inr (12, [.int v0, .ref m1, .ref m2, .ref m3, .ref m4, .ref m5, .int v6, .int v7, .int v8, .int v9, .int v10, .long v11, .int v12, .int v13, .int v14, .int v15, .ref m16, .ref m17, .ref m18, .ref m19, .ref m20, .ref m21, .ref m22, .ref m23, .int v24, .ref m25, .ref m26, .ref m27, .ref m28, .ref m29, .int v30, .ref m31, .ref m32, .ref m33, .int v34, .int v35, .int v36, .ref m37, .ref m38, .ref m39, .ref m40, .long v41])), (m17, .inl (k 0, 30, .inl f17)), (m39, .inl (k 0, 44, .inl f39))] sz)) 0 0 (va_A [(mo, .inr (12, [.int v0, .ref m1, .ref m2, .ref m3, .ref m4, .ref m5, .int v6, .int v7, .int v8, .int v9, .int v10, .long v11, .int v12, .int v13, .int v14, .int v15, .ref m16, .ref m17, .ref m18, .ref m19, .ref m20, .ref m21, .ref m22, .ref m23, .int v24, .ref m25, .ref m26, .ref m27, .ref m28, .ref m29, .int v30, .ref m31, .ref m32, .ref m33, .int v34, .int v35, .int v36, .ref m37, .ref m38, .ref m39, .ref m40, .long v41])), (m17, .inl (k 0, 30, .inl f17)), (m39, .inl (k 0, 44, .inl f39))] sz) := by
  refine Met.ofW (cc := cX12_townHas) (maxL := 4) (ret := (some .int)) (by decide +kernel) rfl ?_
  intro p e s m args below meth c s₁ B hml hv
  obtain ⟨rfl, hsz, hP, hK, hD0, hN⟩ := hv
  have hx := B.exec
  have hb := B.bytes
  have hr := B.returns
  have hts : ∀ w ∈ TT, w.before _ s = true := fun w h => atoms_spec (ws := ww yX12_townHas cX12_townHas 4 (some .int)) B.pre w (List.mem_cons_of_mem _ h)
  have hown : s.vm.findClass RX12 = some m.cls := findClass_of_methodNamed B.named
  have hlocks := B.notSynchronized
  subst hsz
  have hD := hD0.self (sz := s.heap.size)
  generalize hAe : va_A [(mo, .inr (12, [.int v0, .ref m1, .ref m2, .ref m3, .ref m4, .ref m5, .int v6, .int v7, .int v8, .int v9, .int v10, .long v11, .int v12, .int v13, .int v14, .int v15, .ref m16, .ref m17, .ref m18, .ref m19, .ref m20, .ref m21, .ref m22, .ref m23, .int v24, .ref m25, .ref m26, .ref m27, .ref m28, .ref m29, .int v30, .ref m31, .ref m32, .ref m33, .int v34, .int v35, .int v36, .ref m37, .ref m38, .ref m39, .ref m40, .long v41])), (m17, .inl (k 0, 30, .inl f17)), (m39, .inl (k 0, 44, .inl f39))] s.heap.size = A at hD ⊢
  have hA : ∀ q : Nat, s.heap.size ≤ q → A q := fun q h => by rw [← hAe]; exact Or.inr h
  have hS : va_S A s.heap s.heap [] := va_S.rf
  have hl := lv_entry ([.ref mo, .int p0]) (n := 4) (Nat.le_of_ble_eq_true rfl)
  rw [lg_entry_eq]
  generalize (lg_sl ([.ref mo, .int p0]) ++ List.replicate (4 - (lg_sl ([.ref mo, .int p0])).length) Slot.unset).toArray = ls at hl ⊢
  have hl : lv_has ls 4 [(0, .ref mo), (1, .int p0)] := hl
  refine lv_aload_n hx hb dX12_townHas_0 rfl (lv_at hl 0 rfl) ?_
  refine va_get (D := D) (ci := 12) (v := .int v24) (C := RX12) (T := TX12) (N := 42) hx hb hts iT_X12 hown hK hP 0 rfl rfl 24 (by decide) (hts _ tw_6_77) (fun _ h9 => h9) rfl dX12_townHas_1 ?_
  refine lv_if_ne (tgt := 20) hx hb dX12_townHas_4 (by decide) (fun h_1 => ?_) (fun h_1 => ?_)
  · skip
    have zh_1 : ¬ v24.toInt = 0 := z_ne h_1
    refine lv_iconst (v := 0) hx hb dX12_townHas_20 (by decide) ?_
    refine lv_istore_n (lv' := [(2, .int 0), (0, .ref mo), (1, .int p0)]) hx hb dX12_townHas_21 rfl hl (by decide) rfl (fun ls hl => ?_)
    refine lv_iconst (v := 0) hx hb dX12_townHas_22 (by decide) ?_
    refine lv_istore_n (lv' := [(3, .int 0), (2, .int 0), (0, .ref mo), (1, .int p0)]) hx hb dX12_townHas_23 rfl hl (by decide) rfl (fun ls hl => ?_)
    refine loop_r (Wg := fun H locs ls => W p l e _ s m _ below meth c H locs _ _ _ (F0 m 24 ls [])) (fun n9 H locs ls => ∃ (L24l2 : Int32) (L24l3 : Int32), n9 = (10 - L24l3.toInt).toNat ∧ (0 ≤ L24l2.toInt ∧ L24l2.toInt ≤ 2147483647) ∧ (0 ≤ L24l3.toInt ∧ L24l3.toInt ≤ 10) ∧ va_P D vwCl [(mo, .inr (12, [.int v0, .ref m1, .ref m2, .ref m3, .ref m4, .ref m5, .int v6, .int v7, .int v8, .int v9, .int v10, .long v11, .int v12, .int v13, .int v14, .int v15, .ref m16, .ref m17, .ref m18, .ref m19, .ref m20, .ref m21, .ref m22, .ref m23, .int v24, .ref m25, .ref m26, .ref m27, .ref m28, .ref m29, .int v30, .ref m31, .ref m32, .ref m33, .int v34, .int v35, .int v36, .ref m37, .ref m38, .ref m39, .ref m40, .long v41])), (m17, .inl (k 0, 30, .inl f17)), (m39, .inl (k 0, 44, .inl f39))] H ∧ va_D A [(mo, .inr (12, [.int v0, .ref m1, .ref m2, .ref m3, .ref m4, .ref m5, .int v6, .int v7, .int v8, .int v9, .int v10, .long v11, .int v12, .int v13, .int v14, .int v15, .ref m16, .ref m17, .ref m18, .ref m19, .ref m20, .ref m21, .ref m22, .ref m23, .int v24, .ref m25, .ref m26, .ref m27, .ref m28, .ref m29, .int v30, .ref m31, .ref m32, .ref m33, .int v34, .int v35, .int v36, .ref m37, .ref m38, .ref m39, .ref m40, .long v41])), (m17, .inl (k 0, 30, .inl f17)), (m39, .inl (k 0, 44, .inl f39))] ∧ va_S A s.heap H locs ∧ lv_has ls 4 [(0, .ref mo), (1, .int p0), (2, .int L24l2), (3, .int L24l3)]) (fun n9 H locs ls hI ih_2 => ?_) _ _ _ _ ⟨0, 0, rfl, (show 0 ≤ 0 ∧ 0 ≤ 2147483647 from by omega), (show 0 ≤ 0 ∧ 0 ≤ 10 from by omega), hP.sub (ws' := [(mo, .inr (12, [.int v0, .ref m1, .ref m2, .ref m3, .ref m4, .ref m5, .int v6, .int v7, .int v8, .int v9, .int v10, .long v11, .int v12, .int v13, .int v14, .int v15, .ref m16, .ref m17, .ref m18, .ref m19, .ref m20, .ref m21, .ref m22, .ref m23, .int v24, .ref m25, .ref m26, .ref m27, .ref m28, .ref m29, .int v30, .ref m31, .ref m32, .ref m33, .int v34, .int v35, .int v36, .ref m37, .ref m38, .ref m39, .ref m40, .long v41])), (m17, .inl (k 0, 30, .inl f17)), (m39, .inl (k 0, 44, .inl f39))]) [0, 1, 2] rfl, hD.sub (ws' := [(mo, .inr (12, [.int v0, .ref m1, .ref m2, .ref m3, .ref m4, .ref m5, .int v6, .int v7, .int v8, .int v9, .int v10, .long v11, .int v12, .int v13, .int v14, .int v15, .ref m16, .ref m17, .ref m18, .ref m19, .ref m20, .ref m21, .ref m22, .ref m23, .int v24, .ref m25, .ref m26, .ref m27, .ref m28, .ref m29, .int v30, .ref m31, .ref m32, .ref m33, .int v34, .int v35, .int v36, .ref m37, .ref m38, .ref m39, .ref m40, .long v41])), (m17, .inl (k 0, 30, .inl f17)), (m39, .inl (k 0, 44, .inl f39))]) [0, 1, 2] (by decide +kernel) rfl, hS, lv_sub hl [2, 3, 1, 0] rfl⟩
    clear hP hD hS hl
    obtain ⟨L24l2, L24l3, en_3, zL24l2, zL24l3, hP, hD, hS, hl⟩ := hI
    refine lv_iload_n hx hb dX12_townHas_24 rfl (lv_at hl 3 rfl) ?_
    refine lv_aload_n hx hb dX12_townHas_25 rfl (lv_at hl 0 rfl) ?_
    refine va_get (D := D) (ci := 12) (v := .ref m17) (C := RX12) (T := TX12) (N := 42) hx hb hts iT_X12 hown hK hP 0 rfl rfl 17 (by decide) (hts _ tw_6_70) (fun _ h9 => h9) rfl dX12_townHas_26 ?_
    refine lv_iconst (v := 1) hx hb dX12_townHas_29 (by decide) ?_
    refine va_iald hx hb hK hP 1 0 rfl rfl (z_in (by decide) (by decide)) dX12_townHas_30 ?_
    refine lv_topi (fun x_4 ex_4 => ?_)
    have zx_4r1 : 0 ≤ x_4.toInt ∧ x_4.toInt ≤ 10 := by rw [ex_4]; exact PR.ld hp_f17_1 (by decide) (by decide) (by decide)
    refine lv_icmp_ge (tgt := 71) hx hb dX12_townHas_31 (by decide) (fun h_5 => ?_) (fun h_5 => ?_)
    · skip
      have zh_5 : x_4.toInt ≤ L24l3.toInt := z_le h_5
      refine lv_iload_n hx hb dX12_townHas_71 rfl (lv_at hl 2 rfl) ?_
      obtain ⟨hP9, hD9⟩ := sub2 hP hD (ws' := [(mo, .inr (12, [.int v0, .ref m1, .ref m2, .ref m3, .ref m4, .ref m5, .int v6, .int v7, .int v8, .int v9, .int v10, .long v11, .int v12, .int v13, .int v14, .int v15, .ref m16, .ref m17, .ref m18, .ref m19, .ref m20, .ref m21, .ref m22, .ref m23, .int v24, .ref m25, .ref m26, .ref m27, .ref m28, .ref m29, .int v30, .ref m31, .ref m32, .ref m33, .int v34, .int v35, .int v36, .ref m37, .ref m38, .ref m39, .ref m40, .long v41])), (m17, .inl (k 0, 30, .inl f17)), (m39, .inl (k 0, 44, .inl f39))]) [0, 1, 2] (by decide +kernel) rfl
      exact W.iret (v := L24l2) hx hb hr (fun tZ ht hW => ⟨⟨L24l2, (), rfl, trivial, by rw [ht]; exact hP9, va_K.moved hW.alike hK, hD9⟩, hS.F ht⟩) hS.2.2 dX12_townHas_72
    · skip
      have zh_5 : L24l3.toInt < x_4.toInt := z_nle h_5
      refine lv_aload_n hx hb dX12_townHas_34 rfl (lv_at hl 0 rfl) ?_
      refine va_get (D := D) (ci := 12) (v := .ref m39) (C := RX12) (T := TX12) (N := 42) hx hb hts iT_X12 hown hK hP 0 rfl rfl 39 (by decide) (hts _ tw_6_92) (fun _ h9 => h9) rfl dX12_townHas_35 ?_
      refine lv_bipush (v := 11) hx hb dX12_townHas_38 (by decide) ?_
      refine lv_iload_n hx hb dX12_townHas_40 rfl (lv_at hl 1 rfl) ?_
      refine lv_imul hx hb dX12_townHas_41 ?_
      refine lv_topi (fun x_6 ex_6 => ?_)
      have zx_6 : x_6.toInt = 11 * p0.toInt := by rw [ex_6]; exact z_mul rfl rfl (by omega) (by omega)
      refine lv_iload_n hx hb dX12_townHas_42 rfl (lv_at hl 3 rfl) ?_
      refine lv_iadd hx hb dX12_townHas_43 ?_
      refine lv_topi (fun x_7 ex_7 => ?_)
      have zx_7 : x_7.toInt = x_6.toInt + L24l3.toInt := by rw [ex_7]; exact z_add rfl rfl (by omega) (by omega)
      refine va_iald hx hb hK hP 2 0 rfl rfl (z_in (by omega) (by omega)) dX12_townHas_44 ?_
      refine lv_topi (fun x_8 ex_8 => ?_)
      refine lv_iload_n hx hb dX12_townHas_45 rfl (lv_at hl 2 rfl) ?_
      refine lv_icmp_le (tgt := 63) hx hb dX12_townHas_46 (by decide) (fun h_9 => ?_) (fun h_9 => ?_)
      · skip
        have zh_9 : x_8.toInt ≤ L24l2.toInt := z_le h_9
        refine lv_iload_n hx hb dX12_townHas_63 rfl (lv_at hl 2 rfl) ?_
        refine lv_istore_n (lv' := [(2, .int L24l2), (0, .ref mo), (1, .int p0), (3, .int L24l3)]) hx hb dX12_townHas_64 rfl hl (by decide) rfl (fun ls hl => ?_)
        obtain ⟨x_10, ex_10⟩ : ∃ y : Int32, y = L24l3 + 1 := ⟨_, rfl⟩
        have zx_10 : x_10.toInt = L24l3.toInt + 1 := by rw [ex_10]; exact z_add rfl rfl (by omega) (by omega)
        refine lv_iinc (v := x_10) (lv' := [(3, .int x_10), (2, .int L24l2), (0, .ref mo), (1, .int p0)]) hx hb dX12_townHas_65 hl (k := 3) rfl (by rw [ex_10]; rfl) (by decide) rfl (fun ls hl => ?_)
        refine lv_goto (tgt := 24) hx hb dX12_townHas_68 (by decide) ?_
        exact ih_2 _ _ _ _ (by omega) ⟨L24l2, x_10, rfl, (show 0 ≤ L24l2.toInt ∧ L24l2.toInt ≤ 2147483647 from by have := z_rng L24l2; omega), (show 0 ≤ x_10.toInt ∧ x_10.toInt ≤ 10 from by omega), hP.sub (ws' := [(mo, .inr (12, [.int v0, .ref m1, .ref m2, .ref m3, .ref m4, .ref m5, .int v6, .int v7, .int v8, .int v9, .int v10, .long v11, .int v12, .int v13, .int v14, .int v15, .ref m16, .ref m17, .ref m18, .ref m19, .ref m20, .ref m21, .ref m22, .ref m23, .int v24, .ref m25, .ref m26, .ref m27, .ref m28, .ref m29, .int v30, .ref m31, .ref m32, .ref m33, .int v34, .int v35, .int v36, .ref m37, .ref m38, .ref m39, .ref m40, .long v41])), (m17, .inl (k 0, 30, .inl f17)), (m39, .inl (k 0, 44, .inl f39))]) [0, 1, 2] rfl, hD.sub (ws' := [(mo, .inr (12, [.int v0, .ref m1, .ref m2, .ref m3, .ref m4, .ref m5, .int v6, .int v7, .int v8, .int v9, .int v10, .long v11, .int v12, .int v13, .int v14, .int v15, .ref m16, .ref m17, .ref m18, .ref m19, .ref m20, .ref m21, .ref m22, .ref m23, .int v24, .ref m25, .ref m26, .ref m27, .ref m28, .ref m29, .int v30, .ref m31, .ref m32, .ref m33, .int v34, .int v35, .int v36, .ref m37, .ref m38, .ref m39, .ref m40, .long v41])), (m17, .inl (k 0, 30, .inl f17)), (m39, .inl (k 0, 44, .inl f39))]) [0, 1, 2] (by decide +kernel) rfl, hS, lv_sub hl [2, 3, 1, 0] rfl⟩
      · skip
        have zh_9 : L24l2.toInt < x_8.toInt := z_nle h_9
        refine lv_aload_n hx hb dX12_townHas_49 rfl (lv_at hl 0 rfl) ?_
        refine va_get (D := D) (ci := 12) (v := .ref m39) (C := RX12) (T := TX12) (N := 42) hx hb hts iT_X12 hown hK hP 0 rfl rfl 39 (by decide) (hts _ tw_6_92) (fun _ h9 => h9) rfl dX12_townHas_50 ?_
        refine lv_bipush (v := 11) hx hb dX12_townHas_53 (by decide) ?_
        refine lv_iload_n hx hb dX12_townHas_55 rfl (lv_at hl 1 rfl) ?_
        refine lv_imul hx hb dX12_townHas_56 ?_
        refine lv_topi (fun x_11 ex_11 => ?_)
        obtain rfl : x_6 = x_11 := ex_6.trans ex_11.symm
        refine lv_iload_n hx hb dX12_townHas_57 rfl (lv_at hl 3 rfl) ?_
        refine lv_iadd hx hb dX12_townHas_58 ?_
        refine lv_topi (fun x_12 ex_12 => ?_)
        obtain rfl : x_7 = x_12 := ex_7.trans ex_12.symm
        refine va_iald hx hb hK hP 2 0 rfl rfl (z_in (by omega) (by omega)) dX12_townHas_59 ?_
        refine lv_topi (fun x_13 ex_13 => ?_)
        obtain rfl : x_8 = x_13 := ex_8.trans ex_13.symm
        refine lv_goto (tgt := 64) hx hb dX12_townHas_60 (by decide) ?_
        refine lv_istore_n (lv' := [(2, .int x_8), (0, .ref mo), (1, .int p0), (3, .int L24l3)]) hx hb dX12_townHas_64 rfl hl (by decide) rfl (fun ls hl => ?_)
        obtain ⟨x_14, ex_14⟩ : ∃ y : Int32, y = L24l3 + 1 := ⟨_, rfl⟩
        have zx_14 : x_14.toInt = L24l3.toInt + 1 := by rw [ex_14]; exact z_add rfl rfl (by omega) (by omega)
        refine lv_iinc (v := x_14) (lv' := [(3, .int x_14), (2, .int x_8), (0, .ref mo), (1, .int p0)]) hx hb dX12_townHas_65 hl (k := 3) rfl (by rw [ex_14]; rfl) (by decide) rfl (fun ls hl => ?_)
        refine lv_goto (tgt := 24) hx hb dX12_townHas_68 (by decide) ?_
        exact ih_2 _ _ _ _ (by omega) ⟨x_8, x_14, rfl, (show 0 ≤ x_8.toInt ∧ x_8.toInt ≤ 2147483647 from by have := z_rng x_8; omega), (show 0 ≤ x_14.toInt ∧ x_14.toInt ≤ 10 from by omega), hP.sub (ws' := [(mo, .inr (12, [.int v0, .ref m1, .ref m2, .ref m3, .ref m4, .ref m5, .int v6, .int v7, .int v8, .int v9, .int v10, .long v11, .int v12, .int v13, .int v14, .int v15, .ref m16, .ref m17, .ref m18, .ref m19, .ref m20, .ref m21, .ref m22, .ref m23, .int v24, .ref m25, .ref m26, .ref m27, .ref m28, .ref m29, .int v30, .ref m31, .ref m32, .ref m33, .int v34, .int v35, .int v36, .ref m37, .ref m38, .ref m39, .ref m40, .long v41])), (m17, .inl (k 0, 30, .inl f17)), (m39, .inl (k 0, 44, .inl f39))]) [0, 1, 2] rfl, hD.sub (ws' := [(mo, .inr (12, [.int v0, .ref m1, .ref m2, .ref m3, .ref m4, .ref m5, .int v6, .int v7, .int v8, .int v9, .int v10, .long v11, .int v12, .int v13, .int v14, .int v15, .ref m16, .ref m17, .ref m18, .ref m19, .ref m20, .ref m21, .ref m22, .ref m23, .int v24, .ref m25, .ref m26, .ref m27, .ref m28, .ref m29, .int v30, .ref m31, .ref m32, .ref m33, .int v34, .int v35, .int v36, .ref m37, .ref m38, .ref m39, .ref m40, .long v41])), (m17, .inl (k 0, 30, .inl f17)), (m39, .inl (k 0, 44, .inl f39))]) [0, 1, 2] (by decide +kernel) rfl, hS, lv_sub hl [2, 3, 1, 0] rfl⟩
  · skip
    have zh_1 : v24.toInt = 0 := z_eq h_1
    refine lv_aload_n hx hb dX12_townHas_7 rfl (lv_at hl 0 rfl) ?_
    refine va_get (D := D) (ci := 12) (v := .ref m39) (C := RX12) (T := TX12) (N := 42) hx hb hts iT_X12 hown hK hP 0 rfl rfl 39 (by decide) (hts _ tw_6_92) (fun _ h9 => h9) rfl dX12_townHas_8 ?_
    refine lv_bipush (v := 11) hx hb dX12_townHas_11 (by decide) ?_
    refine lv_iload_n hx hb dX12_townHas_13 rfl (lv_at hl 1 rfl) ?_
    refine lv_imul hx hb dX12_townHas_14 ?_
    refine lv_topi (fun x_15 ex_15 => ?_)
    have zx_15 : x_15.toInt = 11 * p0.toInt := by rw [ex_15]; exact z_mul rfl rfl (by omega) (by omega)
    refine lv_bipush (v := 10) hx hb dX12_townHas_15 (by decide) ?_
    refine lv_iadd hx hb dX12_townHas_17 ?_
    refine lv_topi (fun x_16 ex_16 => ?_)
    have zx_16 : x_16.toInt = x_15.toInt + 10 := by rw [ex_16]; exact z_add rfl rfl (by omega) (by omega)
    refine va_iald hx hb hK hP 2 0 rfl rfl (z_in (by omega) (by omega)) dX12_townHas_18 ?_
    refine lv_topi (fun x_17 ex_17 => ?_)
    obtain ⟨hP9, hD9⟩ := sub2 hP hD (ws' := [(mo, .inr (12, [.int v0, .ref m1, .ref m2, .ref m3, .ref m4, .ref m5, .int v6, .int v7, .int v8, .int v9, .int v10, .long v11, .int v12, .int v13, .int v14, .int v15, .ref m16, .ref m17, .ref m18, .ref m19, .ref m20, .ref m21, .ref m22, .ref m23, .int v24, .ref m25, .ref m26, .ref m27, .ref m28, .ref m29, .int v30, .ref m31, .ref m32, .ref m33, .int v34, .int v35, .int v36, .ref m37, .ref m38, .ref m39, .ref m40, .long v41])), (m17, .inl (k 0, 30, .inl f17)), (m39, .inl (k 0, 44, .inl f39))]) [0, 1, 2] (by decide +kernel) rfl
    exact W.iret (v := x_17) hx hb hr (fun tZ ht hW => ⟨⟨x_17, (), rfl, trivial, by rw [ht]; exact hP9, va_K.moved hW.alike hK, hD9⟩, hS.F ht⟩) hS.2.2 dX12_townHas_19
